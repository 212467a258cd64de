import java.util.List;

/** Counts and prints the answers that are not due. */
final class Expect {
    interface Call {
        long answer();
    }

    private final String test;
    private int checks = 0;
    private int wrong = 0;

    Expect(String test) {
        this.test = test;
    }

    void due(String what, long want, long got) {
        checks++;
        if (got != want) {
            complain(what + " answered " + got + ", due is " + want);
        }
    }

    void same(String what, List<String> want, List<String> got) {
        checks++;
        if (got.equals(want)) {
            return;
        }
        int line = 0;
        while (line < want.size() && line < got.size() && want.get(line).equals(got.get(line))) {
            line++;
        }
        complain(what + ": " + lineOf(got, line) + ", due is " + lineOf(want, line));
    }

    private static String lineOf(List<String> lines, int line) {
        return line < lines.size() ? lines.get(line) : "the end";
    }

    /** The class must be the very one: ArrayIndexOutOfBoundsException would be the machine's. */
    void refused(String what, Class<? extends RuntimeException> kind, Call call) {
        checks++;
        try {
            complain(what + " answered " + call.answer() + ", due is " + kind.getSimpleName());
        } catch (RuntimeException e) {
            if (e.getClass() != kind) {
                complain(what + " threw " + e + ", due is " + kind.getSimpleName());
            }
        }
    }

    void noIndex(String what, Call call) {
        refused(what, IndexOutOfBoundsException.class, call);
    }

    void badArgument(String what, Call call) {
        refused(what, IllegalArgumentException.class, call);
    }

    void badState(String what, Call call) {
        refused(what, IllegalStateException.class, call);
    }

    /** Ends the program, with exit code 1 if an answer was wrong. */
    void end() {
        System.out.println(test + ": " + checks + " checks, " + wrong + " wrong");
        if (wrong > 0) {
            System.exit(1);
        }
    }

    private void complain(String text) {
        wrong++;
        if (wrong <= 40) {
            System.out.println(test + ": " + text);
        }
    }
}
