/** Promises 1 to 3: a new object, setCurve, setRates. */
public final class SettingsTest {
    private static final int MIN = Integer.MIN_VALUE;
    private static final int MAX = Integer.MAX_VALUE;
    private static final Expect expect = new Expect("SettingsTest");

    public static void main(String[] args) {
        promise1ThereIsNothingYet();
        promise1RatesAreZeroAndTheShareIsHalf();
        promise2AnswersTheRateBefore();
        promise2HoldsFromNowOn();
        promise2WrongInputs();
        promise3HoldsFromNowOn();
        promise3WrongInputsChangeNothing();
        expect.end();
    }

    private static void promise1ThereIsNothingYet() {
        FundBook book = new FundBook();
        expect.due("month", 0, book.month());
        expect.due("loans", 0, book.loans());
        expect.due("replicaRate", 0, book.replicaRate());
        for (int i = 0; i < 3; i++) {
            expect.due("balance", 0, book.balance(i));
        }
        for (int i = 0; i < 6; i++) {
            expect.due("tranche", 0, book.tranche(i));
            expect.due("due", 0, book.due(i));
        }
    }

    private static void promise1RatesAreZeroAndTheShareIsHalf() {
        FundBook book = new FundBook();
        book.lend(0, 0, 6000000, 0, 6, true);
        for (int what = 0; what < 4; what++) {
            expect.due("bears " + what, 0, book.bears(0, what));
        }
        book.deposit(1, 1200);
        expect.due("tranche of half the deposits", 100, book.tranche(0));
        expect.due("replicaRate", 0, book.replicaRate());
        book.deposit(1, 8000000);
        book.closeMonth();
        expect.due("margin without a deposit rate", 0, book.margin(1, 0));
        expect.due("interest without a deposit rate", 0, book.interest(0));
        for (int term = 1; term <= 6; term++) {
            expect.due("setCurve of a new object", 0, book.setCurve(term, 1));
        }
    }

    private static void promise2AnswersTheRateBefore() {
        FundBook book = new FundBook();
        for (int term = 1; term <= 6; term++) {
            expect.due("first rate", 0, book.setCurve(term, term * 100));
        }
        book.closeMonth();
        for (int term = 1; term <= 6; term++) {
            expect.due("it stays from month to month", term * 100, book.setCurve(term, 5000));
            expect.due("highest rate", 5000, book.setCurve(term, 0));
            expect.due("lowest rate", 0, book.setCurve(term, 0));
        }
    }

    private static void promise2HoldsFromNowOn() {
        FundBook book = new FundBook();
        book.setCurve(2, 1200);
        book.lend(0, 0, 200000, 0, 2, false);
        book.setCurve(2, 2400);
        book.lend(0, 0, 200000, 0, 2, false);
        expect.due("funding by the curve of the birth", 1000, book.bears(0, 1));
        expect.due("funding by the curve since", 2000, book.bears(1, 1));
    }

    private static void promise2WrongInputs() {
        FundBook book = new FundBook();
        book.setCurve(1, 7);
        for (int term : new int[] {0, -1, 7, MIN, MAX}) {
            expect.noIndex("setCurve term " + term, () -> book.setCurve(term, 0));
            expect.noIndex("both are wrong: the term first", () -> book.setCurve(term, -1));
        }
        for (int rate : new int[] {-1, 5001, MIN, MAX}) {
            expect.badArgument("setCurve rate " + rate, () -> book.setCurve(1, rate));
        }
        expect.due("what throws changes nothing", 7, book.setCurve(1, 0));
    }

    private static void promise3HoldsFromNowOn() {
        FundBook book = new FundBook();
        book.setRates(5000, 1200, 100);
        book.lend(0, 0, 600000, 0, 6, true);
        book.deposit(0, 600);
        book.setRates(200, 2400, 0);
        book.lend(0, 0, 600000, 0, 6, true);
        expect.due("option rate as it was", 6000, book.bears(0, 2));
        expect.due("option rate since", 12000, book.bears(1, 2));
        expect.due("core share as it was", 100, book.tranche(0));
        book.deposit(0, 599400);
        expect.due("core share since", 0, book.tranche(0));
        book.closeMonth();
        expect.due("deposit rate since", -1000, book.interest(0));
        book.setRates(5000, 5000, 100);
        book.closeMonth();
        expect.due("highest deposit rate", -25000, book.interest(1));
        book.setRates(0, 0, 0);
        book.closeMonth();
        expect.due("lowest deposit rate", 0, book.interest(2));
    }

    private static void promise3WrongInputsChangeNothing() {
        FundBook book = new FundBook();
        book.setRates(1200, 1200, 100);
        for (int rate : new int[] {-1, 5001, MIN, MAX}) {
            expect.badArgument("deposit rate " + rate, () -> set(book, rate, 0, 0));
            expect.badArgument("option rate " + rate, () -> set(book, 0, rate, 0));
        }
        for (int core : new int[] {-1, 101, MIN, MAX}) {
            expect.badArgument("core share " + core, () -> set(book, 0, 0, core));
        }
        book.lend(0, 0, 100, 0, 1, true);
        expect.due("option rate as before", 1, book.bears(0, 2));
        book.deposit(0, 600);
        expect.due("core share as before", 100, book.tranche(0));
        book.closeMonth();
        expect.due("deposit rate as before", -6, book.interest(0));
    }

    private static long set(FundBook book, int deposit, int option, int core) {
        book.setRates(deposit, option, core);
        return 0;
    }
}
