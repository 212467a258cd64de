/** Promises 4 to 7: lend, repay, deposit, closeMonth. */
public final class DealsTest {
    private static final int MIN = Integer.MIN_VALUE;
    private static final int MAX = Integer.MAX_VALUE;
    private static final Expect expect = new Expect("DealsTest");

    public static void main(String[] args) {
        promise4NumbersTheLoans();
        promise4PartsAndRoundedRest();
        promise4BornInALaterMonth();
        promise4WrongInputs();
        promise4OrderOfExceptions();
        promise5RepaidLoanBearsNothing();
        promise5RefusesWithoutOptionOrWhenPaid();
        promise6Balances();
        promise6LaysAllTranchesInMonthZeroOnly();
        promise6WrongInputs();
        promise7EndsTheMonth();
        promise7LaysTheTrancheOfTheMonth();
        promise7LastMonth();
        expect.end();
    }

    private static void promise4NumbersTheLoans() {
        FundBook book = new FundBook();
        for (int i = 0; i < 24; i++) {
            expect.due("number", i, book.lend(i % 3, i / 8, 1, 0, 1, false));
            expect.due("loans", i + 1, book.loans());
        }
        expect.badState("25th loan", () -> book.lend(0, 0, 1, 0, 1, true));
        book.closeMonth();
        expect.badState("loans paid back still count", () -> book.lend(0, 0, 1, 0, 1, true));
        expect.due("loans", 24, book.loans());
        expect.due("left", 0, book.left(23));
    }

    private static void promise4PartsAndRoundedRest() {
        FundBook book = new FundBook();
        book.lend(2, 2, 10000000, 5000, 6, true);
        for (int ahead = 0; ahead < 5; ahead++) {
            expect.due("part", 1666666, book.due(ahead));
        }
        expect.due("last part", 1666670, book.due(5));
        FundBook single = new FundBook();
        single.lend(0, 0, 1, 5000, 1, false);
        expect.due("one part", 1, single.due(0));
        expect.due("none behind it", 0, single.due(1));
    }

    private static void promise4BornInALaterMonth() {
        FundBook book = new FundBook();
        for (int term = 1; term <= 6; term++) {
            book.setCurve(term, term * 120);
        }
        book.closeMonth();
        book.closeMonth();
        book.lend(1, 1, 300000, 1200, 3, false);
        expect.due("funding at the terms from its birth", 600, book.bears(0, 1));
        book.closeMonth();
        expect.due("the later parts", 500, book.bears(0, 1));
        expect.due("left", 200000, book.left(0));
        book.closeMonth();
        expect.due("the last part", 300, book.bears(0, 1));
        book.closeMonth();
        expect.due("nothing", 0, book.bears(0, 1));
    }

    private static void promise4WrongInputs() {
        FundBook book = new FundBook();
        for (int wrong : new int[] {-1, 3, MIN, MAX}) {
            expect.noIndex("branch " + wrong, () -> book.lend(wrong, 0, 1, 0, 1, true));
            expect.noIndex("product " + wrong, () -> book.lend(0, wrong, 1, 0, 1, true));
        }
        for (int wrong : new int[] {0, -1, 10000001, MIN, MAX}) {
            expect.badArgument("amount " + wrong, () -> book.lend(0, 0, wrong, 0, 1, true));
        }
        for (int wrong : new int[] {-1, 5001, MIN, MAX}) {
            expect.badArgument("rate " + wrong, () -> book.lend(0, 0, 1, wrong, 1, true));
        }
        for (int wrong : new int[] {0, -1, 7, MIN, MAX}) {
            expect.badArgument("months " + wrong, () -> book.lend(0, 0, 1, 0, wrong, true));
        }
        expect.due("what throws changes nothing", 0, book.loans());
        expect.due("nothing is due", 0, book.due(0));
    }

    private static void promise4OrderOfExceptions() {
        FundBook book = new FundBook();
        expect.noIndex("branch before amount", () -> book.lend(3, 0, 0, 0, 1, true));
        expect.noIndex("product before months", () -> book.lend(0, 3, 1, 0, 0, true));
        for (int i = 0; i < 24; i++) {
            book.lend(0, 0, 1, 0, 1, true);
        }
        expect.badArgument("rate before the count", () -> book.lend(0, 0, 1, 5001, 1, true));
        expect.noIndex("product before the count", () -> book.lend(0, -1, 1, 0, 1, true));
    }

    private static void promise5RepaidLoanBearsNothing() {
        FundBook book = new FundBook();
        book.setCurve(1, 600);
        book.setRates(0, 600, 50);
        book.lend(0, 1, 1000000, 1200, 4, true);
        book.lend(0, 1, 120000, 1000, 1, false);
        expect.due("repay in the month of birth", 1000000, book.repay(0));
        for (int what = 0; what < 4; what++) {
            expect.due("bears after repay", 0, book.bears(0, what));
        }
        expect.due("left after repay", 0, book.left(0));
        expect.due("due of the other loan alone", 120000, book.due(0));
        expect.due("nothing due later", 0, book.due(3));
        expect.due("it is still a loan", 2, book.loans());
        book.closeMonth();
        expect.due("interest of the other loan alone", 1000, book.interest(0));
        expect.due("margin of the other loan alone", 400, book.margin(0, 0));
        expect.due("treasury of the other loan alone", 600, book.treasury(0));
        book.lend(1, 0, 1001, 0, 3, true);
        book.closeMonth();
        expect.due("repay after a part", 668, book.repay(2));
    }

    private static void promise5RefusesWithoutOptionOrWhenPaid() {
        FundBook book = new FundBook();
        expect.noIndex("no loans", () -> book.repay(0));
        book.lend(0, 0, 100, 0, 2, false);
        book.lend(0, 0, 100, 0, 2, true);
        book.lend(0, 0, 100, 0, 2, true);
        for (int wrong : new int[] {-1, 3, 24, MIN, MAX}) {
            expect.noIndex("repay " + wrong, () -> book.repay(wrong));
        }
        expect.badState("without an option", () -> book.repay(0));
        expect.due("the refused loan is as before", 100, book.left(0));
        expect.due("repay", 100, book.repay(1));
        expect.badState("repaid already", () -> book.repay(1));
        book.closeMonth();
        book.closeMonth();
        expect.badState("paid back by its parts", () -> book.repay(2));
        expect.badState("paid back, and without an option", () -> book.repay(0));
    }

    private static void promise6Balances() {
        FundBook book = new FundBook();
        expect.due("deposit", 500, book.deposit(0, 500));
        expect.due("take out", 200, book.deposit(0, -300));
        expect.due("take out all", 0, book.deposit(0, -200));
        expect.due("fill up", 10000000, book.deposit(1, 10000000));
        expect.due("nothing", 10000000, book.deposit(1, 0));
        expect.due("empty at once", 0, book.deposit(1, -10000000));
        expect.due("another branch", 3, book.deposit(2, 3));
        expect.due("balance of branch 0", 0, book.balance(0));
    }

    private static void promise6LaysAllTranchesInMonthZeroOnly() {
        FundBook book = new FundBook();
        book.setCurve(6, 600);
        book.deposit(0, 1200);
        for (int i = 0; i < 6; i++) {
            expect.due("all tranches", 100, book.tranche(i));
        }
        book.setCurve(6, 900);
        expect.due("laid at the rate as it was", 600, book.replicaRate());
        book.setRates(0, 0, 100);
        book.deposit(2, 0);
        expect.due("a change of 0 lays nothing", 100, book.tranche(3));
        expect.due("nor at a new rate", 600, book.replicaRate());
        book.deposit(2, 5);
        expect.due("a sixth of the core, rounded down", 200, book.tranche(3));
        expect.due("laid anew at the new rate", 900, book.replicaRate());
        book.deposit(0, -1200);
        expect.due("core below 6", 0, book.tranche(5));
        expect.due("no amounts, no rate", 0, book.replicaRate());
        book.deposit(1, 1195);
        book.closeMonth();
        book.deposit(1, 1200000);
        expect.due("later months lay nothing by a deposit", 200, book.tranche(1));
        expect.due("nor in the tranche of month 0", 200, book.tranche(0));
    }

    private static void promise6WrongInputs() {
        FundBook book = new FundBook();
        book.deposit(0, 600);
        for (int wrong : new int[] {-1, 3, MIN, MAX}) {
            expect.noIndex("branch " + wrong, () -> book.deposit(wrong, 0));
            expect.noIndex("branch before change", () -> book.deposit(wrong, MIN));
        }
        for (int wrong : new int[] {-10000001, 10000001, MIN, MAX}) {
            expect.badArgument("change " + wrong, () -> book.deposit(0, wrong));
        }
        expect.badState("below 0", () -> book.deposit(0, -601));
        expect.badState("below 0 in an empty branch", () -> book.deposit(1, -1));
        expect.badState("above the most", () -> book.deposit(0, 9999401));
        expect.due("what throws changes nothing", 600, book.balance(0));
        expect.due("nor a tranche", 50, book.tranche(2));
        expect.due("up to the most", 10000000, book.deposit(0, 9999400));
        expect.badState("above the most by 1", () -> book.deposit(0, 1));
    }

    private static void promise7EndsTheMonth() {
        FundBook book = new FundBook();
        book.lend(0, 0, 100, 0, 3, true);
        expect.due("closeMonth", 1, book.closeMonth());
        expect.due("left", 67, book.left(0));
        expect.due("due", 33, book.due(0));
        expect.due("last part", 34, book.due(1));
        expect.due("closeMonth", 2, book.closeMonth());
        expect.due("closeMonth", 3, book.closeMonth());
        expect.due("left", 0, book.left(0));
        expect.due("month", 3, book.month());
    }

    private static void promise7LaysTheTrancheOfTheMonth() {
        FundBook book = new FundBook();
        book.deposit(0, 12000);
        for (int month = 1; month <= 13; month++) {
            book.deposit(1, 12);
            book.closeMonth();
            for (int i = 0; i < 6; i++) {
                int laidIn = month - Math.floorMod(month - i, 6);
                int due = laidIn <= 0 ? 1001 : 1000 + laidIn;
                expect.due("tranche " + i + " in month " + month, due, book.tranche(i));
            }
        }
    }

    private static void promise7LastMonth() {
        FundBook book = new FundBook();
        for (int month = 1; month <= 47; month++) {
            expect.due("closeMonth", month, book.closeMonth());
        }
        book.lend(0, 0, 600000, 1000, 6, true);
        expect.badState("month 47", () -> book.closeMonth());
        expect.due("month", 47, book.month());
        expect.due("nothing is paid back", 600000, book.left(0));
        expect.noIndex("month 47 has not ended", () -> book.interest(47));
        expect.due("the last month that ended", 0, book.interest(46));
    }
}
