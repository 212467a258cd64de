/** The empty book, the full one, the last month, and the 512th call. */
public final class WholeBookTest {
    private static final int MOST = 10000000;
    private static final int CALLS = 512;
    private static final Expect expect = new Expect("WholeBookTest");

    public static void main(String[] args) {
        emptyBookHasNothing();
        emptyBookEndsAllItsMonths();
        emptyBookWithTheHighestRates();
        fullBookIsPaidBack();
        fullBookEarns();
        fullBookOfDeposits();
        fullBookRepaidAtOnce();
        bookEmptiedAgain();
        numbersAreNotGivenTwice();
        loansOfAllMonths();
        lastMonthTakesAllButItsEnd();
        loanOfTheLastMonthButOne();
        answersUpToCall512();
        expect.end();
    }

    private static void emptyBookHasNothing() {
        FundBook book = new FundBook();
        expect.due("month", 0, book.month());
        expect.due("loans", 0, book.loans());
        expect.noIndex("left", () -> book.left(0));
        expect.noIndex("bears", () -> book.bears(0, 3));
        expect.noIndex("repay", () -> book.repay(0));
        for (int i = 0; i < 6; i++) {
            expect.due("due", 0, book.due(i));
            expect.due("tranche", 0, book.tranche(i));
        }
        for (int i = 0; i < 3; i++) {
            int asked = i;
            expect.due("balance", 0, book.balance(i));
            expect.due("deposit of nothing", 0, book.deposit(i, 0));
            expect.noIndex("margin", () -> book.margin(asked, 0));
            expect.noIndex("byProduct", () -> book.byProduct(asked, 0));
        }
        expect.noIndex("treasury", () -> book.treasury(0));
        expect.noIndex("interest", () -> book.interest(0));
        expect.due("replicaRate", 0, book.replicaRate());
    }

    private static void emptyBookEndsAllItsMonths() {
        FundBook book = new FundBook();
        for (int month = 0; month < 47; month++) {
            expect.due("closeMonth", month + 1, book.closeMonth());
        }
        nothingIsEarned(book);
    }

    private static void emptyBookWithTheHighestRates() {
        FundBook book = new FundBook();
        for (int term = 1; term <= 6; term++) {
            book.setCurve(term, 5000);
        }
        book.setRates(5000, 5000, 100);
        while (book.month() < 47) {
            book.closeMonth();
        }
        nothingIsEarned(book);
        expect.due("replicaRate", 0, book.replicaRate());
        expect.due("tranche", 0, book.tranche(5));
    }

    private static void nothingIsEarned(FundBook book) {
        for (int month = 0; month < 47; month++) {
            int i = month % 3;
            expect.due("margin of month " + month, 0, book.margin(i, month));
            expect.due("byProduct of month " + month, 0, book.byProduct(i, month));
            expect.due("treasury of month " + month, 0, book.treasury(month));
            expect.due("interest of month " + month, 0, book.interest(month));
        }
    }

    /** Eight loans for each branch, and eight of other branches for each product. */
    private static FundBook fullBook() {
        FundBook book = new FundBook();
        for (int term = 1; term <= 6; term++) {
            book.setCurve(term, 5000);
        }
        book.setRates(5000, 5000, 100);
        for (int loan = 0; loan < 24; loan++) {
            expect.due("number", loan, book.lend(loan % 3, loan / 8, MOST, 5000, 6, true));
        }
        for (int branch = 0; branch < 3; branch++) {
            expect.due("balance", MOST, book.deposit(branch, MOST));
        }
        return book;
    }

    private static void fullBookIsPaidBack() {
        FundBook book = fullBook();
        for (int month = 0; month < 6; month++) {
            for (int ahead = 0; ahead < 6; ahead++) {
                int due = ahead + month < 5 ? 39999984 : ahead + month == 5 ? 40000080 : 0;
                expect.due("due " + ahead + " in month " + month, due, book.due(ahead));
            }
            for (int loan = 0; loan < 24; loan++) {
                expect.due("left", MOST - 1666666 * month, book.left(loan));
            }
            book.closeMonth();
        }
        for (int loan = 0; loan < 24; loan++) {
            expect.due("left", 0, book.left(loan));
        }
        expect.due("due", 0, book.due(0));
        expect.due("loans", 24, book.loans());
        expect.badState("25th loan", () -> book.lend(0, 0, 1, 0, 1, true));
    }

    private static void fullBookEarns() {
        FundBook book = fullBook();
        int[] each = {416666, 347222, 277777, 208333, 138889, 69444, 0, 0};
        for (int month = 0; month < each.length; month++) {
            for (int what = 0; what < 3; what++) {
                expect.due("bears " + what, each[month], book.bears(23, what));
            }
            expect.due("bears 3", -each[month], book.bears(0, 3));
            book.closeMonth();
            for (int i = 0; i < 3; i++) {
                expect.due("margin", -8 * each[month], book.margin(i, month));
                expect.due("byProduct", -8 * each[month], book.byProduct(i, month));
            }
            expect.due("treasury", 48 * each[month] - 3 * 416666, book.treasury(month));
            expect.due("interest", 24 * each[month] - 3 * 416666, book.interest(month));
        }
    }

    private static void fullBookOfDeposits() {
        FundBook book = fullBook();
        for (int month = 0; month < 14; month++) {
            for (int tranche = 0; tranche < 6; tranche++) {
                expect.due("tranche", 5000000, book.tranche(tranche));
            }
            expect.due("replicaRate", 5000, book.replicaRate());
            for (int branch = 0; branch < 3; branch++) {
                int asked = branch;
                expect.badState("1 on top", () -> book.deposit(asked, 1));
                expect.due("balance", MOST, book.balance(branch));
            }
            book.closeMonth();
        }
        for (int month = 6; month < 14; month++) {
            expect.due("margin", 0, book.margin(2, month));
            expect.due("treasury", -1249998, book.treasury(month));
            expect.due("interest", -1249998, book.interest(month));
        }
    }

    private static void fullBookRepaidAtOnce() {
        FundBook book = fullBook();
        for (int loan = 23; loan >= 0; loan--) {
            expect.due("due before", 1666666 * (loan + 1), book.due(0));
            int asked = loan;
            expect.due("repay", MOST, book.repay(loan));
            expect.badState("repay again", () -> book.repay(asked));
        }
        expect.due("due", 0, book.due(0));
        book.closeMonth();
        expect.due("interest of the deposits alone", -1249998, book.interest(0));
        expect.due("treasury of the deposits alone", -1249998, book.treasury(0));
        expect.due("byProduct", 0, book.byProduct(1, 0));
        expect.badState("25th loan", () -> book.lend(0, 0, 1, 0, 1, true));
    }

    private static void bookEmptiedAgain() {
        FundBook book = fullBook();
        for (int loan = 0; loan < 24; loan++) {
            book.repay(loan);
        }
        for (int branch = 0; branch < 3; branch++) {
            expect.due("take out all", 0, book.deposit(branch, -MOST));
        }
        expect.due("replicaRate", 0, book.replicaRate());
        for (int i = 0; i < 6; i++) {
            expect.due("tranche", 0, book.tranche(i));
            expect.due("due", 0, book.due(i));
        }
        while (book.month() < 47) {
            book.closeMonth();
        }
        nothingIsEarned(book);
    }

    private static void numbersAreNotGivenTwice() {
        FundBook book = new FundBook();
        expect.due("first", 0, book.lend(0, 0, 100, 0, 1, true));
        expect.due("repay", 100, book.repay(0));
        expect.due("behind one repaid", 1, book.lend(0, 0, 200, 0, 1, false));
        book.closeMonth();
        expect.due("behind one paid back", 2, book.lend(0, 0, 300, 0, 1, false));
        expect.badArgument("refused", () -> book.lend(0, 0, 300, 0, 0, false));
        expect.due("behind one refused", 3, book.lend(0, 0, 400, 0, 1, false));
        expect.due("left of the first", 0, book.left(0));
        expect.due("left of the second", 0, book.left(1));
        expect.due("left of the third", 300, book.left(2));
        expect.due("left of the fourth", 400, book.left(3));
        expect.due("loans", 4, book.loans());
    }

    /** A new loan each second month, each over 6 months: never more than three at once. */
    private static void loansOfAllMonths() {
        FundBook book = new FundBook();
        book.setCurve(6, 1200);
        for (int month = 0; month < 47; month++) {
            if (month % 2 == 0) {
                expect.due("number", month / 2, book.lend(0, 1, 720000, 1200, 6, false));
            }
            int due = month == 0 || month == 1 ? 1 : month == 2 || month == 3 ? 2 : 3;
            expect.due("due in month " + month, 120000 * due, book.due(0));
            expect.due("left of the newest", month % 2 == 0 ? 720000 : 600000,
                    book.left(month / 2));
            book.closeMonth();
        }
        int[] first = {7200, 6000, 12000, 9600, 14400, 10800, 14400, 10800};
        for (int month = 0; month < 47; month++) {
            int interest = first[month < 8 ? month : 6 + month % 2];
            int loans = Math.min(3, month / 2 + 1);
            expect.due("interest of month " + month, interest, book.interest(month));
            expect.due("treasury of month " + month, 1200 * loans, book.treasury(month));
            expect.due("margin of month " + month, interest - 1200 * loans, book.margin(0, month));
        }
    }

    private static void lastMonthTakesAllButItsEnd() {
        FundBook book = new FundBook();
        book.setRates(0, 0, 100);
        book.deposit(0, 600);
        while (book.month() < 47) {
            book.closeMonth();
        }
        expect.badState("closeMonth", book::closeMonth);
        expect.due("setCurve", 0, book.setCurve(6, 1200));
        expect.due("setCurve again", 1200, book.setCurve(6, 600));
        book.setRates(5000, 1200, 0);
        expect.due("lend", 0, book.lend(2, 2, 600000, 2400, 6, true));
        expect.due("interest", 12000, book.bears(0, 0));
        expect.due("funding", 500, book.bears(0, 1));
        expect.due("option", 6000, book.bears(0, 2));
        expect.due("margin", 5500, book.bears(0, 3));
        expect.due("due behind the last month", 100000, book.due(5));
        expect.due("deposit", 1200, book.deposit(0, 600));
        expect.due("it lays nothing", 100, book.tranche(5));
        expect.due("nor at a rate", 0, book.replicaRate());
        expect.badState("closeMonth", book::closeMonth);
        expect.due("left", 600000, book.left(0));
        expect.due("repay", 600000, book.repay(0));
        expect.badState("repay again", () -> book.repay(0));
        expect.due("left", 0, book.left(0));
        expect.due("month", 47, book.month());
        expect.due("the last month that ended", 0, book.interest(46));
        expect.noIndex("the last month has not", () -> book.interest(47));
        expect.noIndex("the last month has not", () -> book.treasury(47));
        expect.noIndex("the last month has not", () -> book.margin(0, 47));
        expect.noIndex("the last month has not", () -> book.byProduct(0, 47));
    }

    private static void loanOfTheLastMonthButOne() {
        FundBook book = new FundBook();
        while (book.month() < 46) {
            book.closeMonth();
        }
        book.setCurve(1, 600);
        book.lend(1, 2, 120000, 1200, 1, false);
        book.lend(1, 2, 120000, 1200, 2, false);
        book.closeMonth();
        expect.due("interest", 2400, book.interest(46));
        expect.due("treasury", 900, book.treasury(46));
        expect.due("margin", 1500, book.margin(1, 46));
        expect.due("byProduct", 1500, book.byProduct(2, 46));
        expect.due("paid back", 0, book.left(0));
        expect.due("half of it", 60000, book.left(1));
        expect.due("due", 60000, book.due(0));
    }

    private static void answersUpToCall512() {
        FundBook curve = new FundBook();
        FundBook deposits = new FundBook();
        FundBook refused = new FundBook();
        refused.setCurve(3, 9);
        for (int call = 1; call <= CALLS; call++) {
            expect.due("setCurve, call " + call, call - 1, curve.setCurve(3, call));
            expect.due("deposit, call " + call, call, deposits.deposit(1, 1));
            if (call > 1 && call < CALLS) {
                expect.badArgument("call " + call, () -> refused.setCurve(3, -1));
            }
        }
        expect.due("call 512", 9, refused.setCurve(3, 0));
        FundBook lived = fullBook();
        while (lived.month() < 47) {
            lived.closeMonth();
        }
        int calls = 6 + 1 + 24 + 3 + 47 + 48;
        for (int call = calls + 1; call <= CALLS; call++) {
            expect.due("call " + call, 0, lived.left(call % 24));
        }
    }
}
