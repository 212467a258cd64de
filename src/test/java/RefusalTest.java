import java.util.List;

/**
 * "A call that throws an exception changes nothing; if several exceptions apply, the one that
 * its @throws lines name first is thrown": each refused call is made on one of two books with
 * the same past, and both are read whole then.
 */
public final class RefusalTest {
    private static final int MIN = Integer.MIN_VALUE;
    private static final int MAX = Integer.MAX_VALUE;
    private static final int MOST = 10000000;
    private static final Expect expect = new Expect("RefusalTest");

    /** A past that a book can have. */
    private interface Past {
        FundBook book();
    }

    private interface Refused {
        long on(FundBook book);
    }

    public static void main(String[] args) {
        Past[] pasts = {FundBook::new, RefusalTest::monthZero, RefusalTest::midLife,
            RefusalTest::full, RefusalTest::lastMonth};
        for (Past past : pasts) {
            setCurveRefused(past);
            setRatesRefused(past);
            lendRefused(past);
            repayRefused(past);
            depositRefused(past);
            readingsRefused(past);
            endedMonthsRefused(past);
        }
        repayOfALoanRefused();
        lendToAFullBookRefused();
        closeMonthRefused();
        manyRefusalsInARow();
        expect.end();
    }

    /** The curve and the share are changed behind the deposits: tranches laid anew would show. */
    private static FundBook monthZero() {
        FundBook book = new FundBook();
        for (int term = 1; term <= 6; term++) {
            book.setCurve(term, 100 * term);
        }
        book.setRates(77, 88, 60);
        book.lend(0, 0, 6000001, 1200, 6, false);
        book.lend(1, 2, 7000003, 900, 5, true);
        book.lend(2, 1, 5000, 800, 2, true);
        book.repay(2);
        book.lend(0, 1, 9999999, 700, 1, true);
        book.deposit(0, 4000007);
        book.deposit(1, 9999999);
        book.setCurve(6, 1111);
        book.setRates(123, 234, 45);
        return book;
    }

    /** Loan 3 is paid back by its part, loan 2 repaid early, loan 0 has no option. */
    private static FundBook midLife() {
        FundBook book = monthZero();
        book.closeMonth();
        book.lend(2, 2, 123457, 1500, 4, true);
        book.deposit(2, 777777);
        book.closeMonth();
        book.setCurve(1, 333);
        book.setCurve(6, 2222);
        book.setRates(321, 432, 54);
        return book;
    }

    private static FundBook full() {
        FundBook book = new FundBook();
        for (int term = 1; term <= 6; term++) {
            book.setCurve(term, 5000);
        }
        book.setRates(5000, 5000, 100);
        for (int loan = 0; loan < 24; loan++) {
            book.lend(loan % 3, loan / 8, MOST, 5000, 6, true);
        }
        for (int branch = 0; branch < 3; branch++) {
            book.deposit(branch, MOST);
        }
        book.setCurve(6, 4000);
        book.setRates(4000, 4000, 90);
        return book;
    }

    private static FundBook lastMonth() {
        FundBook book = monthZero();
        while (book.month() < 46) {
            book.closeMonth();
        }
        book.lend(1, 1, 9000001, 600, 6, true);
        book.closeMonth();
        book.lend(2, 0, 8000001, 500, 6, true);
        book.deposit(0, 600);
        book.setCurve(6, 3333);
        return book;
    }

    private static void noIndex(String what, Past past, Refused call) {
        unchanged(what, past, call, IndexOutOfBoundsException.class);
    }

    private static void badArgument(String what, Past past, Refused call) {
        unchanged(what, past, call, IllegalArgumentException.class);
    }

    private static void badState(String what, Past past, Refused call) {
        unchanged(what, past, call, IllegalStateException.class);
    }

    private static void unchanged(String what, Past past, Refused call,
            Class<? extends RuntimeException> kind) {
        FundBook asked = past.book();
        expect.refused(what, kind, () -> call.on(asked));
        List<String> due = Reading.of(past.book());
        expect.same("after the refused " + what, due, Reading.of(asked));
    }

    private static void setCurveRefused(Past past) {
        for (int term : new int[] {MIN, -1, 0, 7, 257, MAX}) {
            noIndex("setCurve of term " + term, past, book -> book.setCurve(term, 4321));
            noIndex("setCurve, both wrong", past, book -> book.setCurve(term, 5001));
            noIndex("setCurve, both wrong", past, book -> book.setCurve(term, -1));
        }
        for (int rate : new int[] {MIN, -1, 5001, MAX}) {
            for (int term = 1; term <= 6; term++) {
                int asked = term;
                badArgument("setCurve to " + rate, past, book -> book.setCurve(asked, rate));
            }
        }
    }

    private static void setRatesRefused(Past past) {
        for (int rate : new int[] {MIN, -1, 5001, MAX}) {
            badArgument("deposit rate " + rate, past, book -> setRates(book, rate, 4321, 99));
            badArgument("option rate " + rate, past, book -> setRates(book, 4321, rate, 99));
        }
        for (int share : new int[] {MIN, -1, 101, MAX}) {
            badArgument("core share " + share, past, book -> setRates(book, 4321, 4321, share));
        }
        badArgument("all wrong", past, book -> setRates(book, -1, 5001, 101));
    }

    private static long setRates(FundBook book, int deposit, int option, int core) {
        book.setRates(deposit, option, core);
        return 0;
    }

    private static void lendRefused(Past past) {
        for (int wrong : new int[] {MIN, -1, 3, 256, MAX}) {
            noIndex("branch " + wrong, past, book -> book.lend(wrong, 0, 600, 60, 6, true));
            noIndex("product " + wrong, past, book -> book.lend(0, wrong, 600, 60, 6, false));
            noIndex("branch and amount", past, book -> book.lend(wrong, 0, 0, 60, 6, true));
            noIndex("branch and rate", past, book -> book.lend(wrong, 0, 600, -1, 6, true));
            noIndex("product and months", past, book -> book.lend(0, wrong, 600, 60, 0, true));
            noIndex("all", past, book -> book.lend(wrong, wrong, 0, 5001, 7, true));
        }
        for (int wrong : new int[] {MIN, -1, 0, MOST + 1, MAX}) {
            badArgument("amount " + wrong, past, book -> book.lend(0, 0, wrong, 60, 6, true));
        }
        for (int wrong : new int[] {MIN, -1, 5001, MAX}) {
            badArgument("rate " + wrong, past, book -> book.lend(0, 0, 600, wrong, 6, true));
        }
        for (int wrong : new int[] {MIN, -1, 0, 7, 262, MAX}) {
            badArgument("months " + wrong, past, book -> book.lend(0, 0, 600, 60, wrong, true));
        }
    }

    private static void repayRefused(Past past) {
        int loans = past.book().loans();
        for (int wrong : new int[] {MIN, -1, loans, loans + 1, 24, 25, MAX}) {
            noIndex("repay of " + wrong, past, book -> book.repay(wrong));
        }
    }

    private static void depositRefused(Past past) {
        for (int wrong : new int[] {MIN, -1, 3, 256, MAX}) {
            noIndex("branch " + wrong, past, book -> book.deposit(wrong, 1));
            noIndex("branch and change", past, book -> book.deposit(wrong, MOST + 1));
        }
        for (int branch = 0; branch < 3; branch++) {
            int asked = branch;
            for (int wrong : new int[] {MIN, -MOST - 1, MOST + 1, MAX}) {
                badArgument("change " + wrong, past, book -> book.deposit(asked, wrong));
            }
            int balance = past.book().balance(branch);
            if (balance < MOST) {
                badState("below 0", past, book -> book.deposit(asked, -balance - 1));
                badState("the most out of less", past, book -> book.deposit(asked, -MOST));
            }
            if (balance > 0) {
                badState("above the most", past, book -> book.deposit(asked, MOST - balance + 1));
                badState("the most on top", past, book -> book.deposit(asked, MOST));
            }
        }
    }

    private static void readingsRefused(Past past) {
        int loans = past.book().loans();
        for (int wrong : new int[] {MIN, -1, loans, loans + 1, 24, MAX}) {
            noIndex("left " + wrong, past, book -> book.left(wrong));
            noIndex("bears of " + wrong, past, book -> book.bears(wrong, 0));
            noIndex("bears, both wrong", past, book -> book.bears(wrong, 4));
        }
        for (int wrong : new int[] {MIN, -1, 6, MAX}) {
            badArgument("due " + wrong, past, book -> book.due(wrong));
            noIndex("tranche " + wrong, past, book -> book.tranche(wrong));
        }
        for (int wrong : new int[] {MIN, -1, 3, MAX}) {
            noIndex("balance " + wrong, past, book -> book.balance(wrong));
        }
        if (loans > 0) {
            for (int wrong : new int[] {MIN, -1, 4, MAX}) {
                badArgument("bears what " + wrong, past, book -> book.bears(0, wrong));
            }
        }
    }

    private static void endedMonthsRefused(Past past) {
        int month = past.book().month();
        for (int wrong : new int[] {MIN, -1, month, month + 1, 47, 48, MAX}) {
            noIndex("margin of month " + wrong, past, book -> book.margin(0, wrong));
            noIndex("byProduct of month " + wrong, past, book -> book.byProduct(0, wrong));
            noIndex("treasury of month " + wrong, past, book -> book.treasury(wrong));
            noIndex("interest of month " + wrong, past, book -> book.interest(wrong));
        }
        for (int wrong : new int[] {MIN, -1, 3, MAX}) {
            noIndex("margin of branch " + wrong, past, book -> book.margin(wrong, 0));
            noIndex("byProduct of product " + wrong, past, book -> book.byProduct(wrong, 0));
        }
    }

    private static void repayOfALoanRefused() {
        badState("repay without an option", RefusalTest::monthZero, book -> book.repay(0));
        badState("repay twice in a month", RefusalTest::monthZero, book -> book.repay(2));
        badState("repay without an option", RefusalTest::midLife, book -> book.repay(0));
        badState("repay twice", RefusalTest::midLife, book -> book.repay(2));
        badState("repay when paid back", RefusalTest::midLife, book -> book.repay(3));
        for (int loan = 0; loan < 4; loan++) {
            int asked = loan;
            badState("repay in the last month", RefusalTest::lastMonth, book -> book.repay(asked));
        }
    }

    private static void lendToAFullBookRefused() {
        badState("25th loan", RefusalTest::full, book -> book.lend(0, 0, 1, 0, 1, true));
        badState("25th loan", RefusalTest::full, book -> book.lend(2, 2, MOST, 5000, 6, false));
    }

    private static void closeMonthRefused() {
        badState("closeMonth", RefusalTest::lastMonth, FundBook::closeMonth);
    }

    private static void manyRefusalsInARow() {
        FundBook asked = lastMonth();
        for (int time = 0; time < 100; time++) {
            expect.badState("closeMonth", asked::closeMonth);
            expect.badState("repay", () -> asked.repay(0));
        }
        expect.same("after many refusals", Reading.of(lastMonth()), Reading.of(asked));
    }
}
