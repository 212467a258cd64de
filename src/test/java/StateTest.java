/** Promises 8 to 15: month, loans, left, bears, due, balance, tranche, replicaRate. */
public final class StateTest {
    private static final int MIN = Integer.MIN_VALUE;
    private static final int MAX = Integer.MAX_VALUE;
    private static final Expect expect = new Expect("StateTest");

    public static void main(String[] args) {
        promises8And9Count();
        promise10Left();
        promise11EachSumIsRoundedDown();
        promise11FundingIsRoundedOnce();
        promise11OptionAsItIsAtBirth();
        promise11HighestSums();
        promise11WrongInputs();
        promise12Due();
        promise13Balance();
        promise14Tranche();
        promise15ReplicaRate();
        promise15Highest();
        expect.end();
    }

    private static void promises8And9Count() {
        FundBook book = new FundBook();
        expect.due("month", 0, book.month());
        expect.due("loans", 0, book.loans());
        book.lend(0, 0, 1, 0, 1, true);
        expect.due("loans", 1, book.loans());
        expect.due("month", 0, book.month());
        book.repay(0);
        expect.due("loans with one repaid", 1, book.loans());
        book.closeMonth();
        book.closeMonth();
        expect.due("month", 2, book.month());
        expect.badArgument("lend", () -> book.lend(0, 0, 0, 0, 1, true));
        expect.due("a refused loan is none", 1, book.loans());
    }

    private static void promise10Left() {
        FundBook book = new FundBook();
        expect.noIndex("no loans", () -> book.left(0));
        book.lend(0, 0, 10, 0, 6, false);
        book.lend(0, 0, 9, 0, 6, false);
        int[] first = {10, 9, 8, 7, 6, 5, 0, 0};
        int[] second = {9, 8, 7, 6, 5, 4, 0, 0};
        for (int month = 0; month < first.length; month++) {
            expect.due("left(0) in month " + month, first[month], book.left(0));
            expect.due("left(1) in month " + month, second[month], book.left(1));
            book.closeMonth();
        }
        for (int wrong : new int[] {-1, 2, 24, MIN, MAX}) {
            expect.noIndex("left " + wrong, () -> book.left(wrong));
        }
    }

    private static void promise11EachSumIsRoundedDown() {
        FundBook book = new FundBook();
        book.setCurve(1, 1);
        book.setRates(0, 1, 0);
        book.lend(0, 0, 119999, 2, 1, true);
        expect.due("1.99 of interest", 1, book.bears(0, 0));
        expect.due("0.99 of funding", 0, book.bears(0, 1));
        expect.due("0.99 of option", 0, book.bears(0, 2));
        expect.due("margin", 1, book.bears(0, 3));
        book.lend(0, 0, 120000, 0, 1, true);
        expect.due("interest without a rate", 0, book.bears(1, 0));
        expect.due("1 of funding", 1, book.bears(1, 1));
        expect.due("1 of option", 1, book.bears(1, 2));
        expect.due("margin below 0", -2, book.bears(1, 3));
    }

    private static void promise11FundingIsRoundedOnce() {
        FundBook book = new FundBook();
        book.setCurve(1, 1);
        book.setCurve(2, 1);
        book.lend(0, 0, 120000, 0, 2, false);
        expect.due("0.5 and 0.5 added first", 1, book.bears(0, 1));
        book.closeMonth();
        expect.due("0.5", 0, book.bears(0, 1));
    }

    private static void promise11OptionAsItIsAtBirth() {
        FundBook book = new FundBook();
        book.setRates(0, 1200, 0);
        book.lend(0, 0, 30000, 0, 3, true);
        book.lend(0, 0, 30000, 0, 3, false);
        book.setRates(0, 0, 0);
        expect.due("on all", 300, book.bears(0, 2));
        expect.due("no option, no charge", 0, book.bears(1, 2));
        book.closeMonth();
        expect.due("on two parts", 200, book.bears(0, 2));
        book.closeMonth();
        expect.due("on one part", 100, book.bears(0, 2));
        book.closeMonth();
        expect.due("on nothing", 0, book.bears(0, 2));
        FundBook other = new FundBook();
        other.lend(0, 0, 30000, 0, 3, true);
        other.setRates(0, 1200, 0);
        expect.due("a later option rate is for later loans", 0, other.bears(0, 2));
    }

    private static void promise11HighestSums() {
        FundBook book = new FundBook();
        for (int term = 1; term <= 6; term++) {
            book.setCurve(term, 5000);
        }
        book.setRates(0, 5000, 0);
        book.lend(0, 0, 10000000, 5000, 6, true);
        expect.due("interest", 416666, book.bears(0, 0));
        expect.due("funding", 416666, book.bears(0, 1));
        expect.due("option", 416666, book.bears(0, 2));
        expect.due("margin", -416666, book.bears(0, 3));
    }

    private static void promise11WrongInputs() {
        FundBook book = new FundBook();
        expect.noIndex("no loans", () -> book.bears(0, 0));
        book.lend(0, 0, 1, 0, 1, true);
        for (int wrong : new int[] {-1, 1, 24, MIN, MAX}) {
            expect.noIndex("bears of " + wrong, () -> book.bears(wrong, 0));
            expect.noIndex("the loan first", () -> book.bears(wrong, 4));
        }
        for (int wrong : new int[] {-1, 4, MIN, MAX}) {
            expect.badArgument("bears what " + wrong, () -> book.bears(0, wrong));
        }
    }

    private static void promise12Due() {
        FundBook book = new FundBook();
        book.lend(0, 0, 60, 0, 6, false);
        book.closeMonth();
        book.lend(1, 1, 7, 0, 2, true);
        int[] sums = {13, 14, 10, 10, 10, 0};
        for (int ahead = 0; ahead < sums.length; ahead++) {
            expect.due("due " + ahead, sums[ahead], book.due(ahead));
        }
        book.repay(1);
        expect.due("due without the repaid one", 10, book.due(1));
        for (int wrong : new int[] {-1, 6, MIN, MAX}) {
            expect.badArgument("due " + wrong, () -> book.due(wrong));
        }
        FundBook full = new FundBook();
        for (int i = 0; i < 24; i++) {
            full.lend(0, 0, 10000000, 0, 1, false);
        }
        expect.due("highest", 240000000, full.due(0));
    }

    private static void promise13Balance() {
        FundBook book = new FundBook();
        book.deposit(1, 70);
        book.deposit(2, 10000000);
        book.deposit(1, -30);
        expect.due("balance 0", 0, book.balance(0));
        expect.due("balance 1", 40, book.balance(1));
        expect.due("balance 2", 10000000, book.balance(2));
        book.setRates(5000, 0, 50);
        book.closeMonth();
        expect.due("interest is not put into it", 40, book.balance(1));
        for (int wrong : new int[] {-1, 3, MIN, MAX}) {
            expect.noIndex("balance " + wrong, () -> book.balance(wrong));
        }
    }

    private static void promise14Tranche() {
        FundBook book = new FundBook();
        book.setRates(0, 0, 33);
        book.deposit(0, 1);
        book.deposit(1, 50);
        book.deposit(2, 4);
        expect.due("18 of 55 added, a sixth of it", 3, book.tranche(0));
        book.setRates(0, 0, 100);
        expect.due("a share alone lays nothing", 3, book.tranche(1));
        book.closeMonth();
        expect.due("laid anew with the share of now", 9, book.tranche(1));
        for (int i = 2; i < 6; i++) {
            expect.due("as in month 0", 3, book.tranche(i));
        }
        expect.due("tranche of month 0", 3, book.tranche(0));
        for (int wrong : new int[] {-1, 6, MIN, MAX}) {
            expect.noIndex("tranche " + wrong, () -> book.tranche(wrong));
        }
        FundBook full = new FundBook();
        full.setRates(0, 0, 100);
        for (int branch = 0; branch < 3; branch++) {
            full.deposit(branch, 10000000);
        }
        expect.due("highest", 5000000, full.tranche(5));
    }

    private static void promise15ReplicaRate() {
        FundBook book = new FundBook();
        expect.due("without amounts", 0, book.replicaRate());
        book.setCurve(6, 500);
        expect.due("a rate without amounts", 0, book.replicaRate());
        book.deposit(0, 1200);
        expect.due("all of month 0", 500, book.replicaRate());
        book.setCurve(6, 1001);
        book.setCurve(5, 5000);
        expect.due("laid at the rate of its month", 500, book.replicaRate());
        book.closeMonth();
        expect.due("3501 through 6", 583, book.replicaRate());
        book.setCurve(6, 0);
        expect.due("also in later months", 583, book.replicaRate());
        book.deposit(0, 1200);
        book.closeMonth();
        expect.due("weighted by amounts, 300100 through 700", 428, book.replicaRate());
    }

    private static void promise15Highest() {
        FundBook book = new FundBook();
        book.setRates(0, 0, 100);
        book.setCurve(6, 5000);
        for (int branch = 0; branch < 3; branch++) {
            book.deposit(branch, 10000000);
        }
        expect.due("highest", 5000, book.replicaRate());
        book.closeMonth();
        expect.due("highest a month later", 5000, book.replicaRate());
    }
}
