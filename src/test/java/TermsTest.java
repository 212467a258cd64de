/** The sentences under "Terms" that name a boundary: a rounding, a first time, a time too many. */
public final class TermsTest {
    private static final int MOST = 10000000;
    private static final Expect expect = new Expect("TermsTest");

    public static void main(String[] args) {
        curveStaysFromMonthToMonth();
        partsAreRoundedDownAndTheLastIsTheRest();
        partsSmallerThanTheMonths();
        eachPartIsFundedAtItsOwnTerm();
        fundingIsOfTheCurveAsItWas();
        optionRateIsAsItWas();
        interestIsRoundedDown();
        fundingIsAddedAndThenRoundedDown();
        optionIsRoundedDown();
        eachLoanIsRoundedByItself();
        marginIsTheFirstLessBothOthers();
        repaidInTheMonthOfBirth();
        repaidInTheMonthOfItsLastPart();
        repaidWithAnOptionThatCostsNothing();
        noOptionThoughOptionsCost();
        partsArePaidBackBehindTheMargins();
        productsHoldLoansOfAllBranches();
        expect.end();
    }

    private static void curveStaysFromMonthToMonth() {
        FundBook book = new FundBook();
        for (int term = 1; term <= 6; term++) {
            book.setCurve(term, 1000 + term);
        }
        while (book.month() < 47) {
            book.closeMonth();
        }
        for (int term = 1; term <= 6; term++) {
            expect.due("in the last month", 1000 + term, book.setCurve(term, 2000 + term));
            expect.due("set anew", 2000 + term, book.setCurve(term, 0));
        }
    }

    private static void partsAreRoundedDownAndTheLastIsTheRest() {
        for (int months = 1; months <= 6; months++) {
            int[] amounts = {1, months, months + 1, 2 * months - 1, 2 * months, MOST - 1, MOST};
            for (int amount : amounts) {
                partsOf(amount, months);
            }
        }
        int[] parts = {1666666, 1666666, 1666666, 1666666, 1666666, 1666669};
        FundBook book = new FundBook();
        book.lend(0, 0, MOST - 1, 0, 6, false);
        for (int ahead = 0; ahead < 6; ahead++) {
            expect.due("part of 9999999", parts[ahead], book.due(ahead));
        }
    }

    private static void partsOf(int amount, int months) {
        FundBook book = new FundBook();
        book.lend(1, 1, amount, 0, months, false);
        int part = amount / months;
        int left = amount;
        for (int month = 0; month <= months; month++) {
            int paid = month == months - 1 ? left : Math.min(part, left);
            String text = amount + " in " + months + " parts, month " + month;
            expect.due(text + ", left", left, book.left(0));
            expect.due(text + ", due", paid, book.due(0));
            expect.due(text + ", due behind its end", 0, month == 0 ? 0 : book.due(6 - month));
            left -= paid;
            book.closeMonth();
        }
        expect.due("all is paid back", 0, book.left(0));
    }

    private static void partsSmallerThanTheMonths() {
        FundBook book = new FundBook();
        for (int term = 1; term <= 6; term++) {
            book.setCurve(term, 1);
        }
        book.lend(0, 0, 5, 5000, 6, true);
        for (int month = 0; month < 5; month++) {
            expect.due("no part", 0, book.due(0));
            expect.due("the last part", 5, book.due(5 - month));
            book.closeMonth();
            expect.due("left", 5, book.left(0));
        }
        expect.due("the last part", 5, book.due(0));
        expect.due("not paid back yet", 5, book.repay(0));
    }

    /** Only one term has a rate: the loan bears it until the part of that term is paid back. */
    private static void eachPartIsFundedAtItsOwnTerm() {
        for (int term = 1; term <= 6; term++) {
            FundBook book = new FundBook();
            book.setCurve(term, 1200);
            for (int birth = 0; birth < 2; birth++) {
                int first = book.loans();
                for (int months = 1; months <= 6; months++) {
                    book.lend(0, 0, 100000 * months, 0, months, false);
                }
                for (int month = 0; month < 7; month++) {
                    for (int months = 1; months <= 6; months++) {
                        int due = term <= months && month < term ? 1000 : 0;
                        expect.due("term " + term + " in month " + month + " of " + months,
                                due, book.bears(first + months - 1, 1));
                    }
                    book.closeMonth();
                }
            }
        }
    }

    private static void fundingIsOfTheCurveAsItWas() {
        FundBook book = new FundBook();
        for (int term = 1; term <= 6; term++) {
            book.setCurve(term, 1200);
        }
        book.lend(0, 0, 600000, 0, 6, false);
        for (int term = 1; term <= 6; term++) {
            book.setCurve(term, 0);
        }
        book.lend(0, 0, 600000, 0, 6, false);
        for (int month = 0; month < 6; month++) {
            expect.due("the curve before", 6000 - 1000 * month, book.bears(0, 1));
            expect.due("the curve since", 0, book.bears(1, 1));
            book.setCurve(month + 1, 5000);
            book.closeMonth();
            expect.due("treasury", 6000 - 1000 * month, book.treasury(month));
        }
        expect.due("no part is left", 0, book.bears(0, 1));
    }

    private static void optionRateIsAsItWas() {
        FundBook book = new FundBook();
        book.setRates(0, 1200, 50);
        book.lend(0, 0, 600000, 0, 6, true);
        book.setRates(0, 2400, 50);
        book.lend(0, 0, 600000, 0, 6, true);
        book.setRates(0, 0, 50);
        for (int month = 0; month < 6; month++) {
            expect.due("the first rate", 6000 - 1000 * month, book.bears(0, 2));
            expect.due("the second rate", 12000 - 2000 * month, book.bears(1, 2));
            book.closeMonth();
        }
        expect.due("nothing is left", 0, book.bears(0, 2));
    }

    private static void interestIsRoundedDown() {
        FundBook book = new FundBook();
        int[] amounts = {1, 119999, 120000, 120001, 239999, 240000, 240001};
        int[] sums = {0, 0, 1, 1, 1, 2, 2};
        for (int i = 0; i < amounts.length; i++) {
            book.lend(0, 0, amounts[i], 1, 1, false);
            expect.due("interest on " + amounts[i], sums[i], book.bears(i, 0));
        }
        book.lend(0, 0, 1, 5000, 1, false);
        expect.due("5000 through 120000", 0, book.bears(7, 0));
        book.lend(0, 0, 24, 5000, 1, false);
        expect.due("120000 through 120000", 1, book.bears(8, 0));
        book.lend(0, 0, 23, 5000, 1, false);
        expect.due("115000 through 120000", 0, book.bears(9, 0));
    }

    private static void fundingIsAddedAndThenRoundedDown() {
        FundBook book = new FundBook();
        book.setCurve(1, 1);
        book.setCurve(2, 2);
        book.setCurve(3, 3);
        int[] amounts = {119999, 120000, 79999, 80000, 79998, 59998, 60000, 59999, 60002};
        int[] months = {1, 1, 2, 2, 2, 3, 3, 3, 3};
        int[] sums = {0, 1, 0, 1, 0, 0, 1, 1, 1};
        for (int i = 0; i < amounts.length; i++) {
            book.lend(0, 0, amounts[i], 0, months[i], false);
            expect.due("funding of " + amounts[i], sums[i], book.bears(i, 1));
        }
        book.closeMonth();
        expect.due("40000 at 2", 0, book.bears(3, 1));
        expect.due("20000 at 2 and at 3", 0, book.bears(6, 1));
        FundBook last = new FundBook();
        last.setCurve(3, 1200);
        last.lend(0, 0, 298, 0, 3, false);
        expect.due("a last part of 100", 1, last.bears(0, 1));
        last.lend(0, 0, 297, 0, 3, false);
        expect.due("a last part of 99", 0, last.bears(1, 1));
    }

    private static void optionIsRoundedDown() {
        FundBook book = new FundBook();
        book.setRates(0, 1, 50);
        int[] amounts = {1, 119999, 120000, 120001, 239999, 240000};
        int[] sums = {0, 0, 1, 1, 1, 2};
        for (int i = 0; i < amounts.length; i++) {
            book.lend(0, 0, amounts[i], 0, 1, true);
            expect.due("option on " + amounts[i], sums[i], book.bears(i, 2));
        }
    }

    private static void eachLoanIsRoundedByItself() {
        FundBook book = new FundBook();
        book.setCurve(1, 600);
        book.setRates(0, 300, 50);
        for (int loan = 0; loan < 4; loan++) {
            book.lend(0, 0, 99, 1200, 1, true);
        }
        book.closeMonth();
        expect.due("four times 0.99", 0, book.interest(0));
        expect.due("four times 0.495 and 0.2475", 0, book.treasury(0));
        expect.due("margin", 0, book.margin(0, 0));
        for (int loan = 0; loan < 4; loan++) {
            book.lend(0, 0, 399, 1200, 1, true);
        }
        book.closeMonth();
        expect.due("four times 3.99", 12, book.interest(1));
        expect.due("four times 1.995 and 0.9975", 4, book.treasury(1));
        expect.due("margin", 8, book.margin(0, 1));
        expect.due("byProduct", 8, book.byProduct(0, 1));
    }

    private static void marginIsTheFirstLessBothOthers() {
        FundBook book = new FundBook();
        book.setCurve(1, 120);
        book.setRates(0, 60, 50);
        int[] rates = {0, 179, 180, 181, 5000};
        int[] sums = {-180, -1, 0, 1, 4820};
        for (int i = 0; i < rates.length; i++) {
            book.lend(0, 0, 120000, rates[i], 1, true);
            expect.due("margin at " + rates[i], sums[i], book.bears(i, 3));
        }
        book.lend(0, 0, 120000, 120, 1, false);
        expect.due("margin without an option", 0, book.bears(5, 3));
        book.closeMonth();
        expect.due("margin of the branch", 4640, book.margin(0, 0));
        expect.due("margin of the treasury", 1020, book.treasury(0));
    }

    private static void repaidInTheMonthOfBirth() {
        FundBook book = new FundBook();
        ratesAreAt1200(book);
        book.lend(1, 1, 120000, 1200, 6, true);
        expect.due("bears before", -1200, book.bears(0, 3));
        expect.due("all of it", 120000, book.repay(0));
        bearsNothing(book, 0);
        book.closeMonth();
        monthBearsNothing(book, 0);
        bearsNothing(book, 0);
    }

    private static void repaidInTheMonthOfItsLastPart() {
        FundBook book = new FundBook();
        ratesAreAt1200(book);
        book.lend(1, 1, 121000, 1200, 2, true);
        book.closeMonth();
        expect.due("the first month stays", 1210, book.interest(0));
        expect.due("the last part", 60500, book.repay(0));
        bearsNothing(book, 0);
        book.closeMonth();
        monthBearsNothing(book, 1);
        expect.due("the first month stays", 1210, book.interest(0));
        expect.due("the first month stays", 2420, book.treasury(0));
        book.lend(1, 1, 120000, 1200, 1, true);
        book.closeMonth();
        expect.badState("a month too late", () -> book.repay(1));
        expect.due("it has borne its month", 1200, book.interest(2));
    }

    private static void ratesAreAt1200(FundBook book) {
        for (int term = 1; term <= 6; term++) {
            book.setCurve(term, 1200);
        }
        book.setRates(0, 1200, 50);
    }

    private static void bearsNothing(FundBook book, int loan) {
        for (int what = 0; what < 4; what++) {
            expect.due("bears " + what + " when repaid", 0, book.bears(loan, what));
        }
        for (int ahead = 0; ahead < 6; ahead++) {
            expect.due("due " + ahead + " when repaid", 0, book.due(ahead));
        }
        expect.due("left when repaid", 0, book.left(loan));
    }

    private static void monthBearsNothing(FundBook book, int month) {
        expect.due("margin when repaid", 0, book.margin(1, month));
        expect.due("byProduct when repaid", 0, book.byProduct(1, month));
        expect.due("treasury when repaid", 0, book.treasury(month));
        expect.due("interest when repaid", 0, book.interest(month));
    }

    private static void repaidWithAnOptionThatCostsNothing() {
        FundBook book = new FundBook();
        book.lend(0, 0, 700, 0, 3, true);
        expect.due("option", 0, book.bears(0, 2));
        book.setRates(0, 5000, 50);
        expect.due("option, still", 0, book.bears(0, 2));
        expect.due("repay", 700, book.repay(0));
    }

    private static void noOptionThoughOptionsCost() {
        FundBook book = new FundBook();
        book.setRates(0, 5000, 50);
        book.lend(0, 0, 700000, 0, 3, false);
        expect.due("option", 0, book.bears(0, 2));
        expect.badState("repay", () -> book.repay(0));
        book.closeMonth();
        expect.badState("repay in a later month", () -> book.repay(0));
        expect.due("left", 466667, book.left(0));
        expect.due("treasury", 0, book.treasury(0));
    }

    private static void partsArePaidBackBehindTheMargins() {
        FundBook book = new FundBook();
        book.lend(2, 0, 240000, 1200, 2, false);
        expect.due("bears on all", 2400, book.bears(0, 0));
        book.closeMonth();
        expect.due("the first month is of all", 2400, book.interest(0));
        expect.due("bears on half", 1200, book.bears(0, 0));
        book.closeMonth();
        expect.due("the second month is of half", 1200, book.interest(1));
        expect.due("bears on nothing", 0, book.bears(0, 0));
        book.closeMonth();
        expect.due("the third month is of nothing", 0, book.interest(2));
    }

    private static void productsHoldLoansOfAllBranches() {
        FundBook book = new FundBook();
        book.setRates(1200, 0, 0);
        book.setCurve(1, 600);
        book.deposit(0, 120000);
        for (int branch = 0; branch < 3; branch++) {
            for (int product = 0; product < 3; product++) {
                book.lend(branch, product, 120000, 600 + (branch == product ? 7 : 1), 1, false);
            }
        }
        book.closeMonth();
        for (int product = 0; product < 3; product++) {
            expect.due("product " + product, 9, book.byProduct(product, 0));
        }
        expect.due("branch 0 has deposits", 9 + 600 - 1200, book.margin(0, 0));
        expect.due("branch 1", 9, book.margin(1, 0));
        expect.due("branch 2", 9, book.margin(2, 0));
        expect.due("treasury", 9 * 600 - 600, book.treasury(0));
        expect.due("interest", 9 * 600 + 27 - 1200, book.interest(0));
    }
}
