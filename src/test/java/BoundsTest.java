/**
 * Each bound of each argument: one below it, the bound itself, and one above it, with what the
 * call does at the bound. That a refused call changes nothing is the matter of RefusalTest.
 */
public final class BoundsTest {
    private static final int MOST = 10000000;
    private static final Expect expect = new Expect("BoundsTest");

    public static void main(String[] args) {
        promise2Term();
        promise2Rate();
        promise3DepositRate();
        promise3OptionRate();
        promise3CoreShare();
        promise4Branch();
        promise4Product();
        promise4Amount();
        promise4Rate();
        promise4Months();
        promise4Count();
        promise5Loan();
        promise6Branch();
        promise6Change();
        promise6Balance();
        promise7Month();
        promises10And11Loan();
        promise11What();
        promise12Ahead();
        promise13Branch();
        promise14Tranche();
        promise16Branch();
        promise17Product();
        promises16To19Month();
        expect.end();
    }

    private static long setRates(FundBook book, int deposit, int option, int core) {
        book.setRates(deposit, option, core);
        return 0;
    }

    private static void promise2Term() {
        FundBook book = new FundBook();
        expect.noIndex("term 0", () -> book.setCurve(0, 10));
        expect.due("term 1", 0, book.setCurve(1, 11));
        expect.due("term 2", 0, book.setCurve(2, 12));
        expect.due("term 5", 0, book.setCurve(5, 15));
        expect.due("term 6", 0, book.setCurve(6, 16));
        expect.noIndex("term 7", () -> book.setCurve(7, 17));
        expect.due("term 1 as set", 11, book.setCurve(1, 0));
        expect.due("term 2 as set", 12, book.setCurve(2, 0));
        expect.due("term 3, never set", 0, book.setCurve(3, 0));
        expect.due("term 4, never set", 0, book.setCurve(4, 0));
        expect.due("term 5 as set", 15, book.setCurve(5, 0));
        expect.due("term 6 as set", 16, book.setCurve(6, 0));
    }

    private static void promise2Rate() {
        for (int term = 1; term <= 6; term++) {
            FundBook book = new FundBook();
            int asked = term;
            expect.badArgument("rate -1", () -> book.setCurve(asked, -1));
            expect.due("rate 1", 0, book.setCurve(term, 1));
            expect.due("rate 0", 1, book.setCurve(term, 0));
            expect.due("rate 4999", 0, book.setCurve(term, 4999));
            expect.due("rate 5000", 4999, book.setCurve(term, 5000));
            expect.badArgument("rate 5001", () -> book.setCurve(asked, 5001));
            expect.due("rate as set", 5000, book.setCurve(term, 5000));
        }
    }

    private static void promise3DepositRate() {
        FundBook book = new FundBook();
        book.deposit(0, 120000);
        expect.badArgument("deposit rate -1", () -> setRates(book, -1, 0, 0));
        int[] rates = {1, 0, 4999, 5000};
        for (int month = 0; month < rates.length; month++) {
            book.setRates(rates[month], 0, 0);
            book.closeMonth();
            expect.due("paid at rate " + rates[month], -rates[month], book.interest(month));
        }
        expect.badArgument("deposit rate 5001", () -> setRates(book, 5001, 0, 0));
        book.closeMonth();
        expect.due("paid at the rate as set", -5000, book.interest(4));
    }

    private static void promise3OptionRate() {
        FundBook book = new FundBook();
        expect.badArgument("option rate -1", () -> setRates(book, 0, -1, 0));
        int[] rates = {1, 0, 4999, 5000};
        for (int i = 0; i < rates.length; i++) {
            book.setRates(0, rates[i], 0);
            int loan = book.lend(0, 0, 120000, 0, 1, true);
            expect.due("option at rate " + rates[i], rates[i], book.bears(loan, 2));
        }
        expect.badArgument("option rate 5001", () -> setRates(book, 0, 5001, 0));
        expect.due("option at the rate as set", 5000,
                book.bears(book.lend(0, 0, 120000, 0, 1, true), 2));
    }

    private static void promise3CoreShare() {
        FundBook book = new FundBook();
        expect.badArgument("core share -1", () -> setRates(book, 0, 0, -1));
        int balance = 0;
        for (int share : new int[] {0, 1, 99, 100}) {
            book.setRates(0, 0, share);
            book.deposit(0, 600);
            balance += 600;
            expect.due("tranche at share " + share, balance / 100 * share / 6, book.tranche(5));
        }
        expect.badArgument("core share 101", () -> setRates(book, 0, 0, 101));
        book.deposit(0, 600);
        expect.due("tranche at the share as set", 500, book.tranche(0));
    }

    private static void promise4Branch() {
        FundBook book = new FundBook();
        expect.noIndex("branch -1", () -> book.lend(-1, 0, 120000, 1, 1, true));
        expect.due("branch 0", 0, book.lend(0, 0, 120000, 10, 1, true));
        expect.due("branch 1", 1, book.lend(1, 0, 120000, 20, 1, true));
        expect.due("branch 2", 2, book.lend(2, 0, 120000, 40, 1, true));
        expect.noIndex("branch 3", () -> book.lend(3, 0, 120000, 1, 1, true));
        book.closeMonth();
        expect.due("margin of branch 0", 10, book.margin(0, 0));
        expect.due("margin of branch 1", 20, book.margin(1, 0));
        expect.due("margin of branch 2", 40, book.margin(2, 0));
        expect.due("margin of product 0", 70, book.byProduct(0, 0));
    }

    private static void promise4Product() {
        FundBook book = new FundBook();
        expect.noIndex("product -1", () -> book.lend(1, -1, 120000, 1, 1, true));
        expect.due("product 0", 0, book.lend(1, 0, 120000, 10, 1, true));
        expect.due("product 1", 1, book.lend(1, 1, 120000, 20, 1, true));
        expect.due("product 2", 2, book.lend(1, 2, 120000, 40, 1, true));
        expect.noIndex("product 3", () -> book.lend(1, 3, 120000, 1, 1, true));
        book.closeMonth();
        expect.due("margin of product 0", 10, book.byProduct(0, 0));
        expect.due("margin of product 1", 20, book.byProduct(1, 0));
        expect.due("margin of product 2", 40, book.byProduct(2, 0));
        expect.due("margin of branch 1", 70, book.margin(1, 0));
    }

    private static void promise4Amount() {
        FundBook book = new FundBook();
        expect.badArgument("amount -1", () -> book.lend(0, 0, -1, 0, 6, true));
        expect.badArgument("amount 0", () -> book.lend(0, 0, 0, 0, 6, true));
        int[] amounts = {1, 2, MOST - 1, MOST};
        for (int i = 0; i < amounts.length; i++) {
            expect.due("number", i, book.lend(0, 0, amounts[i], 0, 6, true));
            expect.due("left of " + amounts[i], amounts[i], book.left(i));
        }
        expect.badArgument("amount 10000001", () -> book.lend(0, 0, MOST + 1, 0, 6, true));
        expect.due("loans", 4, book.loans());
    }

    private static void promise4Rate() {
        FundBook book = new FundBook();
        expect.badArgument("rate -1", () -> book.lend(0, 0, 120000, -1, 6, true));
        int[] rates = {0, 1, 4999, 5000};
        for (int i = 0; i < rates.length; i++) {
            expect.due("number", i, book.lend(0, 0, 120000, rates[i], 6, true));
            expect.due("interest at " + rates[i], rates[i], book.bears(i, 0));
        }
        expect.badArgument("rate 5001", () -> book.lend(0, 0, 120000, 5001, 6, true));
        expect.due("loans", 4, book.loans());
    }

    private static void promise4Months() {
        for (int months = 1; months <= 6; months++) {
            FundBook book = new FundBook();
            expect.badArgument("months 0", () -> book.lend(0, 0, 60, 0, 0, true));
            expect.badArgument("months 7", () -> book.lend(0, 0, 60, 0, 7, true));
            expect.due("number", 0, book.lend(0, 0, 60, 0, months, true));
            for (int month = 0; month < 8; month++) {
                int due = month < months ? 60 - 60 / months * month : 0;
                expect.due("left of " + months + " months in " + month, due, book.left(0));
                book.closeMonth();
            }
        }
    }

    private static void promise4Count() {
        FundBook book = new FundBook();
        for (int i = 0; i < 23; i++) {
            book.lend(0, 0, 1, 0, 1, true);
        }
        expect.due("loans, one below the most", 23, book.loans());
        expect.due("the 24th", 23, book.lend(0, 0, 5, 0, 1, true));
        expect.due("loans, the most", 24, book.loans());
        expect.badState("the 25th", () -> book.lend(0, 0, 1, 0, 1, true));
        expect.due("loans, still the most", 24, book.loans());
        expect.due("left of the 24th", 5, book.left(23));
        expect.due("repay of the 24th", 5, book.repay(23));
        expect.badState("one repaid makes no room", () -> book.lend(0, 0, 1, 0, 1, true));
        book.closeMonth();
        expect.badState("all paid back make no room", () -> book.lend(0, 0, 1, 0, 1, true));
    }

    private static void promise5Loan() {
        FundBook book = new FundBook();
        expect.noIndex("loan 0 of none", () -> book.repay(0));
        book.lend(0, 0, 11, 0, 2, true);
        expect.noIndex("loan 1 of one", () -> book.repay(1));
        book.lend(0, 0, 22, 0, 2, true);
        book.lend(0, 0, 33, 0, 2, true);
        expect.noIndex("loan -1", () -> book.repay(-1));
        expect.noIndex("loan 3 of three", () -> book.repay(3));
        expect.due("loan 2", 33, book.repay(2));
        expect.due("loan 0", 11, book.repay(0));
        expect.due("loan 1 is left as it is", 22, book.left(1));
    }

    private static void promise6Branch() {
        FundBook book = new FundBook();
        expect.noIndex("branch -1", () -> book.deposit(-1, 10));
        expect.due("branch 0", 11, book.deposit(0, 11));
        expect.due("branch 1", 12, book.deposit(1, 12));
        expect.due("branch 2", 13, book.deposit(2, 13));
        expect.noIndex("branch 3", () -> book.deposit(3, 14));
        expect.due("balance 0", 11, book.balance(0));
        expect.due("balance 1", 12, book.balance(1));
        expect.due("balance 2", 13, book.balance(2));
    }

    private static void promise6Change() {
        FundBook book = new FundBook();
        expect.badArgument("change 10000001", () -> book.deposit(1, MOST + 1));
        expect.due("change 10000000", MOST, book.deposit(1, MOST));
        expect.badArgument("change -10000001", () -> book.deposit(1, -MOST - 1));
        expect.due("change -10000000", 0, book.deposit(1, -MOST));
        expect.badArgument("out of range before below 0", () -> book.deposit(1, -MOST - 1));
        expect.badState("below 0 at the lowest change", () -> book.deposit(1, -MOST));
        expect.due("change 9999999", MOST - 1, book.deposit(1, MOST - 1));
        expect.due("change -9999999", 0, book.deposit(1, 1 - MOST));
        book.deposit(1, 1);
        expect.badState("above the most at the highest change", () -> book.deposit(1, MOST));
        expect.badArgument("out of range before above", () -> book.deposit(1, MOST + 1));
        expect.due("balance", 1, book.balance(1));
    }

    private static void promise6Balance() {
        for (int branch = 0; branch < 3; branch++) {
            FundBook book = new FundBook();
            int asked = branch;
            expect.badState("-1 of nothing", () -> book.deposit(asked, -1));
            expect.due("1 of nothing", 1, book.deposit(branch, 1));
            expect.badState("-2 of 1", () -> book.deposit(asked, -2));
            expect.due("-1 of 1", 0, book.deposit(branch, -1));
            expect.due("up to one below the most", MOST - 1, book.deposit(branch, MOST - 1));
            expect.badState("2 on top", () -> book.deposit(asked, 2));
            expect.due("1 on top", MOST, book.deposit(branch, 1));
            expect.badState("1 on top of the most", () -> book.deposit(asked, 1));
            expect.due("0 on top of the most", MOST, book.deposit(branch, 0));
            expect.due("-1 of the most", MOST - 1, book.deposit(branch, -1));
            expect.due("balance", MOST - 1, book.balance(branch));
        }
    }

    private static void promise7Month() {
        FundBook book = new FundBook();
        expect.due("the first month", 0, book.month());
        expect.due("closeMonth of month 0", 1, book.closeMonth());
        for (int month = 2; month < 46; month++) {
            book.closeMonth();
        }
        expect.due("closeMonth of month 45", 46, book.closeMonth());
        expect.due("closeMonth of month 46", 47, book.closeMonth());
        expect.badState("closeMonth of month 47", book::closeMonth);
        expect.due("month", 47, book.month());
    }

    private static void promises10And11Loan() {
        FundBook book = new FundBook();
        expect.noIndex("left of 0 of none", () -> book.left(0));
        expect.noIndex("bears of 0 of none", () -> book.bears(0, 0));
        for (int loan = 0; loan < 24; loan++) {
            book.lend(0, 0, 120000, 100 + loan, 1, false);
            int next = loan + 1;
            expect.noIndex("left of -1", () -> book.left(-1));
            expect.noIndex("bears of -1", () -> book.bears(-1, 0));
            expect.due("left of the last", 120000, book.left(loan));
            expect.due("bears of the last", 100 + loan, book.bears(loan, 0));
            expect.noIndex("left behind the last", () -> book.left(next));
            expect.noIndex("bears behind the last", () -> book.bears(next, 0));
        }
        expect.due("bears of the first", 100, book.bears(0, 0));
    }

    private static void promise11What() {
        FundBook book = new FundBook();
        book.setCurve(1, 20);
        book.setRates(0, 3, 50);
        book.lend(0, 0, 120000, 100, 1, true);
        expect.badArgument("what -1", () -> book.bears(0, -1));
        expect.due("what 0", 100, book.bears(0, 0));
        expect.due("what 1", 20, book.bears(0, 1));
        expect.due("what 2", 3, book.bears(0, 2));
        expect.due("what 3", 77, book.bears(0, 3));
        expect.badArgument("what 4", () -> book.bears(0, 4));
        expect.noIndex("the loan first", () -> book.bears(1, 4));
        expect.noIndex("the loan first", () -> book.bears(-1, -1));
        book.repay(0);
        expect.badArgument("what 4 of a loan repaid", () -> book.bears(0, 4));
    }

    private static void promise12Ahead() {
        FundBook book = new FundBook();
        for (int months = 1; months <= 6; months++) {
            book.lend(0, 0, months, 0, months, false);
        }
        expect.badArgument("ahead -1", () -> book.due(-1));
        for (int ahead = 0; ahead <= 5; ahead++) {
            expect.due("ahead " + ahead, 6 - ahead, book.due(ahead));
        }
        expect.badArgument("ahead 6", () -> book.due(6));
    }

    private static void promise13Branch() {
        FundBook book = new FundBook();
        book.deposit(0, 10);
        book.deposit(2, 30);
        expect.noIndex("branch -1", () -> book.balance(-1));
        expect.due("branch 0", 10, book.balance(0));
        expect.due("branch 1", 0, book.balance(1));
        expect.due("branch 2", 30, book.balance(2));
        expect.noIndex("branch 3", () -> book.balance(3));
    }

    private static void promise14Tranche() {
        FundBook book = new FundBook();
        book.deposit(0, 1200);
        book.deposit(0, 1200);
        expect.noIndex("tranche -1", () -> book.tranche(-1));
        expect.due("tranche 0", 200, book.tranche(0));
        expect.due("tranche 5", 200, book.tranche(5));
        expect.noIndex("tranche 6", () -> book.tranche(6));
    }

    private static void promise16Branch() {
        FundBook book = new FundBook();
        book.closeMonth();
        expect.noIndex("branch -1", () -> book.margin(-1, 0));
        expect.due("branch 0", 0, book.margin(0, 0));
        expect.due("branch 2", 0, book.margin(2, 0));
        expect.noIndex("branch 3", () -> book.margin(3, 0));
        expect.noIndex("both wrong", () -> book.margin(3, 1));
    }

    private static void promise17Product() {
        FundBook book = new FundBook();
        book.closeMonth();
        expect.noIndex("product -1", () -> book.byProduct(-1, 0));
        expect.due("product 0", 0, book.byProduct(0, 0));
        expect.due("product 2", 0, book.byProduct(2, 0));
        expect.noIndex("product 3", () -> book.byProduct(3, 0));
        expect.noIndex("both wrong", () -> book.byProduct(3, 1));
    }

    /** The balance grows with the month, so that each month's answers are its own. */
    private static void promises16To19Month() {
        FundBook book = new FundBook();
        book.setRates(1, 0, 0);
        book.setCurve(1, 3);
        notEnded(book, -1);
        for (int month = 0; month < 47; month++) {
            notEnded(book, month);
            book.deposit(1, 120000);
            book.closeMonth();
            expect.due("the month just ended", -month - 1, book.interest(month));
        }
        notEnded(book, -1);
        notEnded(book, 47);
        notEnded(book, 48);
        for (int month : new int[] {0, 1, 22, 45, 46}) {
            expect.due("margin of month " + month, 2 * (month + 1), book.margin(1, month));
            expect.due("byProduct of month " + month, 0, book.byProduct(1, month));
            expect.due("treasury of month " + month, -3 * (month + 1), book.treasury(month));
            expect.due("interest of month " + month, -month - 1, book.interest(month));
        }
    }

    private static void notEnded(FundBook book, int month) {
        expect.noIndex("margin of month " + month, () -> book.margin(1, month));
        expect.noIndex("byProduct of month " + month, () -> book.byProduct(1, month));
        expect.noIndex("treasury of month " + month, () -> book.treasury(month));
        expect.noIndex("interest of month " + month, () -> book.interest(month));
    }
}
