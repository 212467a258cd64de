import java.io.IOException;
import java.nio.file.Files;
import java.nio.file.Path;
import java.util.ArrayList;
import java.util.List;
import java.util.regex.Matcher;
import java.util.regex.Pattern;

/** The sentences of the document that hold for the book as a whole, by its own answers alone. */
public final class DocumentTest {
    private static final int MOST = 10000000;
    private static final int LAST_MONTH = 47;
    private static final int MOST_CALLS = 512;
    private static final Path SOURCE = Path.of("src/main/java/FundBook.java");

    private static final String[] INTERFACE = {
        "---- settings", "setCurve", "setRates",
        "---- deals", "lend", "repay", "deposit", "closeMonth",
        "---- what there is", "month", "loans", "left", "bears", "due", "balance", "tranche",
        "replicaRate",
        "---- margins of months that have ended", "margin", "byProduct", "treasury", "interest",
    };

    private static final Expect expect = new Expect("DocumentTest");

    /** A past that a book can have. */
    private interface Past {
        FundBook book();
    }

    public static void main(String[] args) throws IOException {
        interfaceSaysItsHeadings();
        ratesAreForAYearOfTwelveMonths();
        whatIsBorneIsWhatIsReckoned(0);
        whatIsBorneIsWhatIsReckoned(5);
        whatIsBorneIsWhatIsReckoned(LAST_MONTH - 12);
        allMarginsAreTheInterestInEveryMonth();
        monthOfBirthCountsWhole();
        answersChangeNothing();
        settingsSetAgainChangeNothing();
        booksAreApart();
        exampleOfTheReadme();
        expect.end();
    }

    /** "Ahead of the calls ... the interface says". */
    private static void interfaceSaysItsHeadings() throws IOException {
        Pattern line = Pattern.compile("    (?:// (---- .*)|public (?:int|void) (\\w+)\\(.*)");
        List<String> said = new ArrayList<>();
        for (String text : Files.readAllLines(SOURCE)) {
            Matcher found = line.matcher(text);
            if (found.matches()) {
                said.add(found.group(1) != null ? found.group(1) : found.group(2));
            }
        }
        expect.same("the interface", List.of(INTERFACE), said);
    }

    /** 12 % of a sum, and the hundredth of a percent of another, over 12 months. */
    private static void ratesAreForAYearOfTwelveMonths() {
        FundBook book = new FundBook();
        book.deposit(0, 1000000);
        book.setRates(1200, 0, 50);
        yearPaysCustomers(book, 120000);
        book.deposit(0, 200000);
        book.setRates(1, 0, 50);
        yearPaysCustomers(book, 120);
        book.setRates(0, 0, 0);
        book.setCurve(1, 100);
        int paid = 0;
        for (int k = 0; k < 12; k++) {
            book.closeMonth();
            paid -= book.treasury(book.month() - 1);
        }
        expect.due("1 % of 1200000 for a year", 12000, paid);
    }

    private static void yearPaysCustomers(FundBook book, int due) {
        int paid = 0;
        for (int k = 0; k < 12; k++) {
            book.closeMonth();
            paid -= book.interest(book.month() - 1);
        }
        expect.due("paid to customers in a year", due, paid);
    }

    /** What the book tells ahead of a month's end must be what it tells of that month then. */
    private static void whatIsBorneIsWhatIsReckoned(int start) {
        Witness witness = new Witness(start);
        for (int k = 0; k < 12; k++) {
            witness.deals(k);
            witness.endOfMonth();
        }
        expect.due("calls within the most", 1, witness.calls <= MOST_CALLS ? 1 : 0);
    }

    /** A book whose settings are noted here; the rest is asked of it. */
    private static final class Witness {
        private final FundBook book = new FundBook();
        private final List<Integer> branches = new ArrayList<>();
        private final List<Integer> products = new ArrayList<>();
        private long shortRate = 0;
        private long depositRate = 0;
        private long share = 50;
        private int calls = 0;

        Witness(int start) {
            while (book.month() < start) {
                book.closeMonth();
                calls += 2;
            }
        }

        void deals(int k) {
            shortRate = 37 * k % 401;
            depositRate = 91 + 13 * k;
            share = 7 * k % 101;
            book.setCurve(1, (int) shortRate);
            book.setCurve(2 + k % 5, 211 + 17 * k);
            book.setCurve(6, 503 + 29 * k);
            book.setRates((int) depositRate, 61 + k, (int) share);
            book.deposit(k % 3, 1234567 - 70001 * k);
            calls += 5;
            if (k % 3 == 0) {
                branches.add(k % 2);
                products.add(k / 3 % 3);
                book.lend(k % 2, k / 3 % 3, 3456789 + k, 999 + 101 * k, 6 - k / 3, k % 2 == 0);
                calls++;
            }
            if (k == 8) {
                expect.due("repay", book.left(2), book.repay(2));
                calls += 2;
            }
        }

        void endOfMonth() {
            int month = book.month();
            long[] byBranch = new long[3];
            long[] byProduct = new long[3];
            long treasury = 0;
            long interest = 0;
            for (int loan = 0; loan < branches.size(); loan++) {
                long customer = book.bears(loan, 0);
                long cost = book.bears(loan, 1) + book.bears(loan, 2);
                byBranch[branches.get(loan)] += customer - cost;
                byProduct[products.get(loan)] += customer - cost;
                treasury += cost;
                interest += customer;
            }
            long replicaRate = book.replicaRate();
            for (int branch = 0; branch < 3; branch++) {
                long balance = book.balance(branch);
                long core = balance * share / 100;
                long paid = (core * replicaRate + (balance - core) * shortRate) / 120000;
                long toCustomers = balance * depositRate / 120000;
                byBranch[branch] += paid - toCustomers;
                treasury -= paid;
                interest -= toCustomers;
            }
            book.closeMonth();
            calls += 3 * branches.size() + 6;
            compare(month, byBranch, byProduct);
            expect.due("treasury of " + month, treasury, book.treasury(month));
            expect.due("interest of " + month, interest, book.interest(month));
            calls += 2;
        }

        private void compare(int month, long[] byBranch, long[] byProduct) {
            for (int i = 0; i < 3; i++) {
                expect.due("margin " + i + " of " + month, byBranch[i], book.margin(i, month));
                expect.due("product " + i + " of " + month, byProduct[i],
                        book.byProduct(i, month));
            }
            calls += 6;
        }
    }

    private static void allMarginsAreTheInterestInEveryMonth() {
        FundBook book = new FundBook();
        for (int month = 0; month < LAST_MONTH; month++) {
            book.setCurve(1 + month % 6, 3 + 107 * month % 4999);
            if (month % 2 == 0) {
                book.setRates(11 * month, 1 + 19 * month, 100 - 2 * month);
                book.lend(month % 3, month / 2 % 3, 9999991 - 777 * month, 4999 - 103 * month,
                        1 + month % 5, month % 4 == 0);
            }
            book.deposit(month % 3, 87653 + 1001 * month);
            book.closeMonth();
        }
        long earned = 0;
        for (int month = 0; month < LAST_MONTH; month++) {
            int sum = book.treasury(month);
            for (int branch = 0; branch < 3; branch++) {
                sum += book.margin(branch, month);
            }
            int interest = book.interest(month);
            expect.due("all margins of month " + month, interest, sum);
            earned += Math.abs(interest);
        }
        expect.due("there is something to add", 1, earned > 1000000 ? 1 : 0);
    }

    /** "(or when the loan was made in it)": there are no days, whatever came before in it. */
    private static void monthOfBirthCountsWhole() {
        FundBook book = new FundBook();
        book.setCurve(1, 600);
        book.deposit(0, 5000);
        book.closeMonth();
        book.lend(0, 0, 120000, 1200, 1, true);
        book.repay(0);
        book.deposit(0, -5000);
        book.lend(0, 0, 120000, 1200, 1, false);
        expect.due("interest", 1200, book.bears(1, 0));
        expect.due("funding", 600, book.bears(1, 1));
        book.closeMonth();
        expect.due("interest of the month", 1200, book.interest(1));
        expect.due("treasury of the month", 600, book.treasury(1));
    }

    private static void answersChangeNothing() {
        Past[] pasts = {FundBook::new, DocumentTest::monthZero, DocumentTest::someMonthsLater,
            DocumentTest::lastMonth};
        for (Past past : pasts) {
            FundBook asked = past.book();
            askAll(asked);
            expect.same("after all questions", Reading.of(past.book()), Reading.of(asked));
        }
    }

    private static void askAll(FundBook book) {
        book.month();
        book.replicaRate();
        for (int loan = 0; loan < book.loans(); loan++) {
            book.left(loan);
            for (int what = 0; what < 4; what++) {
                book.bears(loan, what);
            }
        }
        for (int i = 0; i < 6; i++) {
            book.due(i);
            book.tranche(i);
            book.balance(i % 3);
        }
        for (int month = 0; month < Math.min(3, book.month()); month++) {
            for (int i = 0; i < 3; i++) {
                book.margin(i, month);
                book.byProduct(i, month);
            }
            book.treasury(month);
            book.interest(month);
        }
    }

    /** Curve and share are as the pasts left them: what is laid keeps the older ones. */
    private static void settingsSetAgainChangeNothing() {
        int[] shortRates = {0, 310, 310, 310};
        Past[] pasts = {FundBook::new, DocumentTest::monthZero, DocumentTest::someMonthsLater,
            DocumentTest::lastMonth};
        for (int i = 0; i < pasts.length; i++) {
            FundBook asked = pasts[i].book();
            expect.due("rate before", shortRates[i], asked.setCurve(1, shortRates[i]));
            if (i == 0) {
                asked.setRates(0, 0, 50);
            } else {
                asked.setRates(123, 234, 45);
            }
            for (int branch = 0; branch < 3; branch++) {
                expect.due("balance", asked.balance(branch), asked.deposit(branch, 0));
            }
            expect.same("after what changes nothing", Reading.of(pasts[i].book()),
                    Reading.of(asked));
        }
    }

    private static FundBook monthZero() {
        FundBook book = new FundBook();
        for (int term = 1; term <= 6; term++) {
            book.setCurve(term, 300 + 10 * term);
        }
        book.setRates(77, 88, 60);
        book.lend(0, 1, 7654321, 1234, 6, true);
        book.lend(1, 0, 1234567, 2345, 3, false);
        book.lend(2, 2, 100001, 345, 2, true);
        book.deposit(0, 3000003);
        book.deposit(2, 700007);
        book.setCurve(6, 4321);
        book.setRates(123, 234, 45);
        return book;
    }

    private static FundBook someMonthsLater() {
        FundBook book = monthZero();
        book.closeMonth();
        book.repay(2);
        book.deposit(1, 5000005);
        book.closeMonth();
        book.lend(1, 1, 4000001, 567, 4, true);
        book.setCurve(6, 876);
        book.closeMonth();
        book.deposit(1, -4000004);
        book.setCurve(6, 987);
        return book;
    }

    private static FundBook lastMonth() {
        FundBook book = someMonthsLater();
        while (book.month() < LAST_MONTH - 2) {
            book.closeMonth();
        }
        book.lend(2, 1, 8000001, 789, 6, true);
        book.closeMonth();
        book.closeMonth();
        book.deposit(0, 999);
        return book;
    }

    /** Nothing of one book shows in another, also when they live at the same time. */
    private static void booksAreApart() {
        FundBook one = monthZero();
        FundBook other = someMonthsLater();
        FundBook empty = new FundBook();
        for (int time = 0; time < 5; time++) {
            one.deposit(1, 600);
            other.closeMonth();
            other.setCurve(6, 5000);
            other.lend(0, 0, MOST, 5000, 6, true);
        }
        expect.same("an empty one", Reading.of(new FundBook()), Reading.of(empty));
        FundBook alone = monthZero();
        for (int time = 0; time < 5; time++) {
            alone.deposit(1, 600);
        }
        expect.same("one of two", Reading.of(alone), Reading.of(one));
    }

    /** README.md tells these answers. */
    private static void exampleOfTheReadme() {
        FundBook book = new FundBook();
        book.setCurve(1, 120);
        book.setCurve(2, 180);
        book.setCurve(3, 240);
        book.setCurve(6, 600);
        book.setRates(100, 50, 60);
        int loan = book.lend(0, 1, 1200000, 1200, 3, true);
        expect.due("loan", 0, loan);
        expect.due("interest", 12000, book.bears(loan, 0));
        expect.due("funding", 1800, book.bears(loan, 1));
        expect.due("option", 500, book.bears(loan, 2));
        expect.due("margin", 9700, book.bears(loan, 3));
        expect.due("due", 400000, book.due(0));
        expect.due("deposit", 600000, book.deposit(0, 600000));
        expect.due("tranche", 60000, book.tranche(0));
        expect.due("replicaRate", 600, book.replicaRate());
        expect.due("closeMonth", 1, book.closeMonth());
        expect.due("margin of the branch", 11240, book.margin(0, 0));
        expect.due("margin of the product", 9700, book.byProduct(1, 0));
        expect.due("margin of the treasury", 260, book.treasury(0));
        expect.due("interest of the bank", 11500, book.interest(0));
        expect.due("left", 800000, book.left(loan));
        expect.due("repay", 800000, book.repay(loan));
        expect.due("bears nothing", 0, book.bears(loan, 3));
    }
}
