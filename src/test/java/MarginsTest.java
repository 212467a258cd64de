/** Promises 16 to 19: margin, byProduct, treasury, interest. */
public final class MarginsTest {
    private static final int MIN = Integer.MIN_VALUE;
    private static final int MAX = Integer.MAX_VALUE;
    private static final Expect expect = new Expect("MarginsTest");

    public static void main(String[] args) {
        promises16To19OfLoans();
        promises16To19OfDeposits();
        depositsCountAsAtTheEndOfTheMonth();
        coreAndFickleAreRoundedTogether();
        rolledTrancheCountsFromItsMonth();
        endedMonthsStayAsTheyWere();
        highestSums();
        promise16WrongInputs();
        promise17WrongInputs();
        promises18And19WrongInputs();
        expect.end();
    }

    private static void promises16To19OfLoans() {
        FundBook book = new FundBook();
        book.setCurve(1, 120);
        book.setCurve(2, 240);
        book.setRates(0, 60, 50);
        book.lend(0, 2, 2000000, 600, 2, false);
        book.lend(0, 1, 1000000, 600, 1, true);
        book.lend(2, 2, 1000000, 120, 1, false);
        book.closeMonth();
        expect.due("branch 0: 7000 and 3500", 10500, book.margin(0, 0));
        expect.due("branch 1", 0, book.margin(1, 0));
        expect.due("branch 2: 1000 less 1000", 0, book.margin(2, 0));
        expect.due("product 0", 0, book.byProduct(0, 0));
        expect.due("product 1", 3500, book.byProduct(1, 0));
        expect.due("product 2 of both branches", 7000, book.byProduct(2, 0));
        expect.due("funding and option", 5500, book.treasury(0));
        expect.due("interest", 16000, book.interest(0));
        book.closeMonth();
        expect.due("branch 0, month 1", 3000, book.margin(0, 1));
        expect.due("product 2, month 1", 3000, book.byProduct(2, 1));
        expect.due("treasury, month 1", 2000, book.treasury(1));
        expect.due("interest, month 1", 5000, book.interest(1));
        book.closeMonth();
        expect.due("all paid back", 0, book.interest(2));
        expect.due("all paid back", 0, book.treasury(2));
        expect.due("all paid back", 0, book.margin(0, 2));
    }

    private static void promises16To19OfDeposits() {
        FundBook book = new FundBook();
        book.setCurve(1, 240);
        book.setCurve(6, 600);
        book.setRates(120, 0, 60);
        book.deposit(0, 1000000);
        book.deposit(2, 500000);
        book.closeMonth();
        expect.due("3000 and 800 less 1000", 2800, book.margin(0, 0));
        expect.due("branch without deposits", 0, book.margin(1, 0));
        expect.due("1500 and 400 less 500", 1400, book.margin(2, 0));
        expect.due("deposits are of no product", 0, book.byProduct(0, 0));
        expect.due("what branches are paid", -5700, book.treasury(0));
        expect.due("what customers are paid", -1500, book.interest(0));
    }

    private static void depositsCountAsAtTheEndOfTheMonth() {
        FundBook book = new FundBook();
        book.setCurve(6, 1200);
        book.setRates(1200, 0, 100);
        book.deposit(0, 600000);
        book.closeMonth();
        book.deposit(0, -500000);
        book.setRates(600, 0, 50);
        book.setCurve(1, 120);
        book.closeMonth();
        expect.due("50000 at 1200, 50000 at 120, less 100000 at 600", 50, book.margin(0, 1));
        expect.due("treasury", -550, book.treasury(1));
        expect.due("interest", -500, book.interest(1));
    }

    private static void coreAndFickleAreRoundedTogether() {
        FundBook book = new FundBook();
        book.setCurve(1, 1);
        book.setCurve(6, 1);
        book.deposit(0, 120000);
        book.deposit(1, 119999);
        book.closeMonth();
        expect.due("0.5 and 0.5 added first", 1, book.margin(0, 0));
        expect.due("just below 1", 0, book.margin(1, 0));
        expect.due("each branch is rounded by itself", -1, book.treasury(0));
        FundBook odd = new FundBook();
        odd.setCurve(1, 5000);
        odd.deposit(0, 47);
        odd.closeMonth();
        expect.due("core of 23, fickle of 24: 120000", 1, odd.margin(0, 0));
    }

    private static void rolledTrancheCountsFromItsMonth() {
        FundBook book = new FundBook();
        book.setRates(0, 0, 100);
        book.deposit(0, 720000);
        book.setCurve(6, 600);
        book.closeMonth();
        expect.due("the replica of month 0", 0, book.margin(0, 0));
        book.closeMonth();
        expect.due("a sixth at 600", 600, book.margin(0, 1));
        expect.due("treasury", -600, book.treasury(1));
        book.closeMonth();
        expect.due("two sixths at 600", 1200, book.margin(0, 2));
    }

    private static void endedMonthsStayAsTheyWere() {
        FundBook book = new FundBook();
        book.setCurve(1, 1200);
        book.lend(0, 0, 300000, 2400, 1, false);
        book.closeMonth();
        book.setCurve(1, 0);
        book.lend(0, 0, 300000, 1200, 1, false);
        book.deposit(0, 1000);
        book.closeMonth();
        expect.due("margin, month 0", 3000, book.margin(0, 0));
        expect.due("byProduct, month 0", 3000, book.byProduct(0, 0));
        expect.due("treasury, month 0", 3000, book.treasury(0));
        expect.due("interest, month 0", 6000, book.interest(0));
        expect.due("margin, month 1", 3000, book.margin(0, 1));
        expect.due("treasury, month 1", 0, book.treasury(1));
        expect.due("interest, month 1", 3000, book.interest(1));
    }

    private static void highestSums() {
        FundBook book = new FundBook();
        for (int term = 1; term <= 6; term++) {
            book.setCurve(term, 5000);
        }
        book.setRates(0, 5000, 50);
        for (int i = 0; i < 24; i++) {
            book.lend(1, 2, 10000000, 5000, 6, true);
        }
        book.closeMonth();
        expect.due("margin", -9999984, book.margin(1, 0));
        expect.due("byProduct", -9999984, book.byProduct(2, 0));
        expect.due("treasury", 19999968, book.treasury(0));
        expect.due("interest", 9999984, book.interest(0));
        FundBook deposits = new FundBook();
        deposits.setRates(5000, 0, 100);
        deposits.setCurve(6, 5000);
        for (int branch = 0; branch < 3; branch++) {
            deposits.deposit(branch, 10000000);
        }
        deposits.closeMonth();
        expect.due("treasury of deposits", -1249998, deposits.treasury(0));
        expect.due("interest of deposits", -1249998, deposits.interest(0));
        expect.due("margin of deposits", 0, deposits.margin(2, 0));
    }

    private static void promise16WrongInputs() {
        FundBook book = new FundBook();
        expect.noIndex("month 0 goes on", () -> book.margin(0, 0));
        book.closeMonth();
        expect.due("margin", 0, book.margin(2, 0));
        for (int wrong : new int[] {-1, 3, MIN, MAX}) {
            expect.noIndex("branch " + wrong, () -> book.margin(wrong, 0));
        }
        for (int wrong : new int[] {-1, 1, 2, 47, 48, MIN, MAX}) {
            expect.noIndex("month " + wrong, () -> book.margin(0, wrong));
        }
    }

    private static void promise17WrongInputs() {
        FundBook book = new FundBook();
        expect.noIndex("month 0 goes on", () -> book.byProduct(0, 0));
        book.closeMonth();
        expect.due("byProduct", 0, book.byProduct(2, 0));
        for (int wrong : new int[] {-1, 3, MIN, MAX}) {
            expect.noIndex("product " + wrong, () -> book.byProduct(wrong, 0));
        }
        for (int wrong : new int[] {-1, 1, 2, 47, 48, MIN, MAX}) {
            expect.noIndex("month " + wrong, () -> book.byProduct(0, wrong));
        }
    }

    private static void promises18And19WrongInputs() {
        FundBook book = new FundBook();
        expect.noIndex("month 0 goes on", () -> book.treasury(0));
        expect.noIndex("month 0 goes on", () -> book.interest(0));
        book.closeMonth();
        expect.due("treasury", 0, book.treasury(0));
        expect.due("interest", 0, book.interest(0));
        for (int wrong : new int[] {-1, 1, 2, 47, 48, MIN, MAX}) {
            expect.noIndex("treasury " + wrong, () -> book.treasury(wrong));
            expect.noIndex("interest " + wrong, () -> book.interest(wrong));
        }
    }
}
