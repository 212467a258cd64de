import java.lang.reflect.Constructor;
import java.lang.reflect.Field;
import java.lang.reflect.Method;
import java.lang.reflect.Modifier;
import java.util.Arrays;
import java.util.TreeSet;

/** The face of the class is the document's, and nothing besides (LANGUAGE.md, rules 1 and 5). */
public final class FaceTest {
    private static final String INDEX = " IndexOutOfBoundsException";
    private static final String ARGUMENT = " IllegalArgumentException";
    private static final String STATE = " IllegalStateException";

    private static final String[] FACE = {
        "int setCurve(int,int)" + INDEX + ARGUMENT,
        "void setRates(int,int,int)" + ARGUMENT,
        "int lend(int,int,int,int,int,boolean)" + INDEX + ARGUMENT + STATE,
        "int repay(int)" + INDEX + STATE,
        "int deposit(int,int)" + INDEX + ARGUMENT + STATE,
        "int closeMonth()" + STATE,
        "int month()",
        "int loans()",
        "int left(int)" + INDEX,
        "int bears(int,int)" + INDEX + ARGUMENT,
        "int due(int)" + ARGUMENT,
        "int balance(int)" + INDEX,
        "int tranche(int)" + INDEX,
        "int replicaRate()",
        "int margin(int,int)" + INDEX,
        "int byProduct(int,int)" + INDEX,
        "int treasury(int)" + INDEX,
        "int interest(int)" + INDEX,
    };

    private static final Expect expect = new Expect("FaceTest");

    public static void main(String[] args) {
        expect.due("FundBook is public and final", Modifier.PUBLIC | Modifier.FINAL,
                FundBook.class.getModifiers() & (Modifier.PUBLIC | Modifier.FINAL));
        constructorIsTheOnlyOne();
        methodsAreTheFace();
        allElseIsPrivate();
        noPrivateMethodBearsAPublicName();
        classesInsideAreHiddenAndStatic();
        staticFieldsAreFinal();
        expect.end();
    }

    private static void constructorIsTheOnlyOne() {
        Constructor<?>[] all = FundBook.class.getDeclaredConstructors();
        expect.due("number of constructors", 1, all.length);
        expect.due("parameters of the constructor", 0, all[0].getParameterCount());
        expect.due("constructor is public", 1, Modifier.isPublic(all[0].getModifiers()) ? 1 : 0);
    }

    private static void methodsAreTheFace() {
        TreeSet<String> due = new TreeSet<>(Arrays.asList(FACE));
        TreeSet<String> there = new TreeSet<>();
        for (Method method : FundBook.class.getDeclaredMethods()) {
            if (Modifier.isPublic(method.getModifiers())) {
                there.add(signature(method));
            }
        }
        expect.due("public methods " + there + " against " + due, 1, there.equals(due) ? 1 : 0);
    }

    private static void allElseIsPrivate() {
        for (Method method : FundBook.class.getDeclaredMethods()) {
            int kind = method.getModifiers() & (Modifier.PUBLIC | Modifier.PRIVATE);
            expect.due(method.getName() + " is public or private", 1, kind != 0 ? 1 : 0);
        }
        for (Field field : FundBook.class.getDeclaredFields()) {
            int access = Modifier.isPrivate(field.getModifiers()) ? 1 : 0;
            expect.due(field.getName() + " is private", 1, access);
        }
    }

    private static void noPrivateMethodBearsAPublicName() {
        TreeSet<String> names = new TreeSet<>();
        for (Method method : FundBook.class.getMethods()) {
            if (method.getDeclaringClass() == FundBook.class) {
                names.add(method.getName());
            }
        }
        expect.due("names of the face", FACE.length, names.size());
        noneBears(names, FundBook.class.getDeclaredMethods());
        for (Class<?> inside : FundBook.class.getDeclaredClasses()) {
            noneBears(names, inside.getDeclaredMethods());
        }
    }

    private static void noneBears(TreeSet<String> names, Method[] methods) {
        for (Method method : methods) {
            if (!Modifier.isPublic(method.getModifiers())) {
                expect.due(method.getName() + " is a public name", 0,
                        names.contains(method.getName()) ? 1 : 0);
            }
        }
    }

    private static void classesInsideAreHiddenAndStatic() {
        int open = Modifier.PUBLIC | Modifier.PROTECTED;
        for (Class<?> inside : FundBook.class.getDeclaredClasses()) {
            int kind = inside.getModifiers();
            expect.due(inside.getName() + " is open", 0, kind & open);
            expect.due(inside.getName() + " is static", 1, Modifier.isStatic(kind) ? 1 : 0);
        }
    }

    private static void staticFieldsAreFinal() {
        for (Field field : FundBook.class.getDeclaredFields()) {
            int kind = field.getModifiers();
            expect.due(field.getName() + " is fixed", 1,
                    Modifier.isStatic(kind) && !Modifier.isFinal(kind) ? 0 : 1);
        }
        for (Class<?> inside : FundBook.class.getDeclaredClasses()) {
            for (Field field : inside.getDeclaredFields()) {
                int kind = field.getModifiers();
                expect.due(field.getName() + " is fixed", 1,
                        Modifier.isStatic(kind) && !Modifier.isFinal(kind) ? 0 : 1);
            }
        }
    }

    private static String signature(Method method) {
        StringBuilder text = new StringBuilder();
        text.append(method.getReturnType().getSimpleName()).append(' ');
        text.append(method.getName()).append('(');
        String comma = "";
        for (Class<?> parameter : method.getParameterTypes()) {
            text.append(comma).append(parameter.getSimpleName());
            comma = ",";
        }
        text.append(')');
        for (Class<?> exception : method.getExceptionTypes()) {
            text.append(' ').append(exception.getSimpleName());
        }
        return text.toString();
    }
}
