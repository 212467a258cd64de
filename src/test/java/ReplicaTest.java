/** The sentences on deposits, the core and the replica that name a boundary. */
public final class ReplicaTest {
    private static final int MOST = 10000000;
    private static final Expect expect = new Expect("ReplicaTest");

    public static void main(String[] args) {
        coreAndSixthAreRoundedDown();
        balancesAreAddedBeforeTheShareIsTaken();
        coreOfTheHighestBalances();
        anyChangeButZeroLaysAllInMonthZero();
        lastChangeOfMonthZeroCounts();
        aSettingLaysNothing();
        noDepositsInMonthZero();
        depositsFromMonthOneOnLayNothing();
        firstRoundOfTheTranches();
        tranchesComeRoundAgainUpToTheLastMonth();
        curveAndShareAsTheyAreWhenTheMonthBegins();
        rateIsRoundedDown();
        rateIsWeightedByAmounts();
        rateWithoutAmounts();
        loansLayNothing();
        coreOfABranchIsRoundedDown();
        fickleIsTheRest();
        highestPay();
        paidAtBothRatesAndRoundedOnce();
        customersArePaidRoundedDown();
        eachBranchIsRoundedByItself();
        replicaOfTheMonthThatEnds();
        onlyTheBalanceAtTheEndCounts();
        expect.end();
    }

    private static void coreAndSixthAreRoundedDown() {
        int[] shares = {50, 50, 50, 50, 50, 1, 1, 1, 99, 99, 99, 100, 100, 100, 100, 0, 0};
        int[] money = {1, 11, 12, 23, 24, 599, 600, 1200, 6, 7, 13, 5, 6, 11, 12, 6, MOST};
        int[] sums = {0, 0, 1, 1, 2, 0, 1, 2, 0, 1, 2, 0, 1, 1, 2, 0, 0};
        for (int i = 0; i < money.length; i++) {
            FundBook book = new FundBook();
            book.setRates(0, 0, shares[i]);
            book.deposit(i % 3, money[i]);
            for (int tranche = 0; tranche < 6; tranche++) {
                expect.due("tranche of " + money[i] + " at " + shares[i], sums[i],
                        book.tranche(tranche));
            }
        }
    }

    private static void balancesAreAddedBeforeTheShareIsTaken() {
        FundBook book = new FundBook();
        book.deposit(0, 5);
        book.deposit(1, 5);
        book.deposit(2, 1);
        expect.due("half of 11", 0, book.tranche(0));
        book.deposit(2, 1);
        expect.due("half of 12, though 2 and 2 and 1 by themselves", 1, book.tranche(0));
    }

    /** From the share 72 on the product is beyond an int. */
    private static void coreOfTheHighestBalances() {
        FundBook book = new FundBook();
        for (int branch = 0; branch < 3; branch++) {
            book.deposit(branch, MOST);
        }
        for (int share = 0; share <= 100; share++) {
            book.setRates(0, 0, share);
            book.deposit(2, -1);
            book.deposit(2, 1);
            expect.due("tranche at share " + share, 50000 * share, book.tranche(share % 6));
        }
    }

    private static void anyChangeButZeroLaysAllInMonthZero() {
        for (int branch = 0; branch < 3; branch++) {
            FundBook book = new FundBook();
            book.setRates(0, 0, 100);
            book.setCurve(6, 500);
            book.deposit(0, 600);
            book.deposit(1, 600);
            book.deposit(2, 600);
            book.setCurve(6, 700);
            book.deposit(branch, 0);
            expect.due("0 lays nothing", 500, book.replicaRate());
            book.deposit(branch, 1);
            expect.due("1 lays all at the rate of now", 700, book.replicaRate());
            expect.due("1 is no sixth", 300, book.tranche(0));
            book.setCurve(6, 900);
            book.deposit(branch, -2);
            expect.due("-2 lays all at the rate of now", 900, book.replicaRate());
            for (int tranche = 0; tranche < 6; tranche++) {
                expect.due("a sixth of 1799", 299, book.tranche(tranche));
            }
        }
    }

    private static void lastChangeOfMonthZeroCounts() {
        FundBook book = new FundBook();
        book.setRates(0, 0, 100);
        book.setCurve(6, 1200);
        book.deposit(1, 6000);
        book.deposit(1, -6000);
        for (int tranche = 0; tranche < 6; tranche++) {
            expect.due("all is taken out again", 0, book.tranche(tranche));
        }
        expect.due("no amounts, no rate", 0, book.replicaRate());
        book.setCurve(6, 600);
        book.deposit(2, 60);
        expect.due("the rate of the last change", 600, book.replicaRate());
        expect.due("the sum of the last change", 10, book.tranche(5));
    }

    private static void aSettingLaysNothing() {
        FundBook book = new FundBook();
        book.setCurve(6, 600);
        book.deposit(0, 1200);
        book.setCurve(6, 1200);
        book.setRates(0, 0, 100);
        for (int tranche = 0; tranche < 6; tranche++) {
            expect.due("amount as laid", 100, book.tranche(tranche));
        }
        expect.due("rate as laid", 600, book.replicaRate());
        book.closeMonth();
        book.setRates(0, 0, 0);
        book.setCurve(6, 0);
        expect.due("laid when the month began", 200, book.tranche(1));
        expect.due("800 and 1200 at 100 and 200", 771, book.replicaRate());
    }

    private static void noDepositsInMonthZero() {
        FundBook book = new FundBook();
        book.setRates(0, 0, 100);
        book.setCurve(6, 600);
        book.deposit(0, 0);
        book.closeMonth();
        expect.due("a tranche of nothing", 0, book.tranche(1));
        book.deposit(0, 6000);
        for (int month = 2; month <= 7; month++) {
            for (int tranche = 0; tranche < 6; tranche++) {
                int first = tranche < 2 ? tranche + 6 : tranche;
                int due = first < month ? 1000 : 0;
                expect.due("tranche " + tranche + " before month " + month, due,
                        book.tranche(tranche));
            }
            expect.due("rate before month " + month, month == 2 ? 0 : 600, book.replicaRate());
            book.closeMonth();
        }
        expect.due("the tranche of month 1 in month 7", 1000, book.tranche(1));
    }

    private static void depositsFromMonthOneOnLayNothing() {
        FundBook book = new FundBook();
        book.setRates(0, 0, 100);
        book.setCurve(6, 600);
        book.deposit(0, 6000);
        book.closeMonth();
        for (int month = 1; month <= 7; month++) {
            book.setCurve(6, 0);
            book.deposit(0, 3000);
            book.deposit(1, 1);
            book.deposit(0, -3000);
            book.deposit(1, -1);
            book.deposit(2, 60);
            for (int tranche = 0; tranche < 6; tranche++) {
                expect.due("amount in month " + month, 1000, book.tranche(tranche));
            }
            expect.due("rate in month " + month, 600, book.replicaRate());
            book.deposit(2, -60);
            book.setCurve(6, 600);
            book.closeMonth();
        }
    }

    /** Month 5 lays the last tranche, months 6 and 12 lay the first one again. */
    private static void firstRoundOfTheTranches() {
        FundBook book = new FundBook();
        book.setRates(0, 0, 100);
        book.deposit(0, 6);
        int[] laid = {1, 1, 1, 1, 1, 1};
        int[] tranches = {-1, 1, 2, 3, 4, 5, 0, 1, 2, 3, 4, 5, 0, 1};
        for (int month = 1; month <= 13; month++) {
            book.closeMonth();
            laid[tranches[month]] = month;
            for (int tranche = 0; tranche < 6; tranche++) {
                expect.due("tranche " + tranche + " in month " + month, laid[tranche],
                        book.tranche(tranche));
            }
            book.deposit(0, 6);
        }
    }

    private static void tranchesComeRoundAgainUpToTheLastMonth() {
        FundBook book = new FundBook();
        book.setRates(0, 0, 100);
        book.setCurve(6, 77);
        book.deposit(0, 600001);
        long[] amounts = {100000, 100000, 100000, 100000, 100000, 100000};
        long[] rates = {77, 77, 77, 77, 77, 77};
        int balance = 600001;
        for (int month = 1; month <= 47; month++) {
            int change = month == 1 ? 0 : month % 2 == 0 ? 54321 : -12345;
            int rate = 97 * month % 1000;
            balance += change;
            book.deposit(0, change);
            book.setCurve(6, rate);
            book.closeMonth();
            amounts[month % 6] = balance / 6;
            rates[month % 6] = rate;
            long sum = 0;
            long weighted = 0;
            for (int tranche = 0; tranche < 6; tranche++) {
                expect.due("tranche " + tranche + " in month " + month, amounts[tranche],
                        book.tranche(tranche));
                sum += amounts[tranche];
                weighted += amounts[tranche] * rates[tranche];
            }
            expect.due("rate in month " + month, weighted / sum, book.replicaRate());
        }
        expect.badState("no month behind it", book::closeMonth);
        expect.due("tranche of the last month", balance / 6, book.tranche(5));
    }

    private static void curveAndShareAsTheyAreWhenTheMonthBegins() {
        FundBook book = new FundBook();
        book.setCurve(5, 5000);
        book.setCurve(6, 600);
        book.deposit(0, 1200);
        book.setCurve(6, 1200);
        book.setCurve(6, 1800);
        book.setRates(0, 0, 80);
        book.setRates(0, 0, 0);
        book.setRates(0, 0, 100);
        book.closeMonth();
        expect.due("the share of now", 200, book.tranche(1));
        expect.due("500 at 600, 200 at 1800", 942, book.replicaRate());
        book.setRates(0, 0, 0);
        book.closeMonth();
        expect.due("a share of 0", 0, book.tranche(2));
        expect.due("400 at 600, 200 at 1800", 1000, book.replicaRate());
    }

    private static void rateIsRoundedDown() {
        int[] rates = {0, 1, 5, 6, 7, 11, 12, 5000};
        int[] sums = {0, 0, 0, 1, 1, 1, 2, 833};
        for (int i = 0; i < rates.length; i++) {
            FundBook book = new FundBook();
            book.setRates(0, 0, 100);
            book.deposit(0, 6);
            book.setCurve(6, rates[i]);
            book.closeMonth();
            expect.due("one of six at " + rates[i], sums[i], book.replicaRate());
        }
    }

    private static void rateIsWeightedByAmounts() {
        FundBook book = new FundBook();
        book.setRates(0, 0, 100);
        book.deposit(0, 6);
        book.setCurve(6, 1000);
        book.deposit(1, 0);
        book.closeMonth();
        expect.due("1 of 6 at 1000", 166, book.replicaRate());
        book.deposit(0, 24);
        book.closeMonth();
        expect.due("6 of 10 at 1000", 600, book.replicaRate());
        book.setCurve(6, 0);
        book.deposit(0, -30);
        book.closeMonth();
        expect.due("6 of 9 at 1000", 666, book.replicaRate());
        book.closeMonth();
        expect.due("6 of 8 at 1000", 750, book.replicaRate());
        book.closeMonth();
        expect.due("6 of 7 at 1000", 857, book.replicaRate());
        book.closeMonth();
        expect.due("6 of 6 at 1000", 1000, book.replicaRate());
    }

    private static void rateWithoutAmounts() {
        FundBook book = new FundBook();
        book.setRates(0, 0, 100);
        book.setCurve(6, 600);
        expect.due("never deposits", 0, book.replicaRate());
        book.deposit(0, 5);
        expect.due("a core without a sixth", 0, book.replicaRate());
        book.deposit(0, 1);
        expect.due("a sixth of 1", 600, book.replicaRate());
        book.closeMonth();
        book.deposit(0, -1);
        for (int month = 2; month <= 6; month++) {
            book.closeMonth();
            expect.due("one tranche at least", 600, book.replicaRate());
        }
        expect.due("the one left", 1, book.tranche(1));
        book.closeMonth();
        expect.due("none left", 0, book.tranche(1));
        expect.due("no amounts any more", 0, book.replicaRate());
        book.deposit(0, 1);
        expect.due("amounts only when a month begins", 0, book.replicaRate());
        book.closeMonth();
        expect.due("amounts again", 600, book.replicaRate());
    }

    private static void loansLayNothing() {
        FundBook book = new FundBook();
        book.setCurve(6, 600);
        book.deposit(0, 1200);
        book.setCurve(6, 1200);
        book.lend(0, 0, MOST, 100, 6, true);
        book.repay(0);
        expect.due("rate", 600, book.replicaRate());
        expect.due("amount", 100, book.tranche(0));
        expect.due("balance", 1200, book.balance(0));
    }

    /** Only the replica has a rate: 1 is paid for each 100 of the core. */
    private static void coreOfABranchIsRoundedDown() {
        int[] money = {0, 1, 199, 200, 201, 399, 400};
        int[] sums = {0, 0, 0, 1, 1, 1, 2};
        for (int i = 0; i < money.length; i++) {
            FundBook book = new FundBook();
            book.setCurve(6, 1200);
            book.deposit(1, MOST);
            book.deposit(0, money[i]);
            book.closeMonth();
            expect.due("core of " + money[i], sums[i], book.margin(0, 0));
            expect.due("core of the most", 50000, book.margin(1, 0));
            expect.due("core of nothing", 0, book.margin(2, 0));
        }
    }

    /** Only the term of 1 month has a rate: 1 is paid for each 100 of the rest. */
    private static void fickleIsTheRest() {
        int[] money = {0, 1, 197, 198, 199, 200, 397, 398, 399};
        int[] sums = {0, 0, 0, 0, 1, 1, 1, 1, 2};
        for (int i = 0; i < money.length; i++) {
            FundBook book = new FundBook();
            book.setCurve(1, 1200);
            book.deposit(2, money[i]);
            book.closeMonth();
            expect.due("rest of " + money[i], sums[i], book.margin(2, 0));
        }
        int[] shares = {0, 1, 99, 100};
        int[] rests = {10, 9, 0, 0};
        for (int i = 0; i < shares.length; i++) {
            FundBook book = new FundBook();
            book.setRates(0, 0, shares[i]);
            book.setCurve(1, 1200);
            book.deposit(0, 1000);
            book.closeMonth();
            expect.due("rest of 1000 at " + shares[i], rests[i], book.margin(0, 0));
        }
    }

    /** Each product is far beyond an int. */
    private static void highestPay() {
        int[] shares = {0, 1, 50, 99, 100};
        for (int share : shares) {
            FundBook book = new FundBook();
            book.setRates(0, 0, share);
            book.setCurve(1, 5000);
            book.setCurve(6, 5000);
            book.deposit(1, MOST);
            book.closeMonth();
            expect.due("all at 5000, share " + share, 416666, book.margin(1, 0));
            expect.due("treasury, share " + share, -416666, book.treasury(0));
            book.setRates(5000, 0, share);
            book.setCurve(1, 0);
            book.closeMonth();
            expect.due("the core at 5000, share " + share, MOST / 100 * share / 24 - 416666,
                    book.margin(1, 1));
            expect.due("interest, share " + share, -416666, book.interest(1));
        }
    }

    private static void paidAtBothRatesAndRoundedOnce() {
        int[] money = {99, 100, 101, 199, 200};
        int[] sums = {0, 1, 1, 1, 2};
        for (int i = 0; i < money.length; i++) {
            FundBook book = new FundBook();
            book.setCurve(1, 1200);
            book.setCurve(6, 1200);
            book.deposit(0, money[i]);
            book.closeMonth();
            expect.due("core and rest of " + money[i], sums[i], book.margin(0, 0));
            expect.due("treasury", -sums[i], book.treasury(0));
            expect.due("interest", 0, book.interest(0));
        }
    }

    private static void customersArePaidRoundedDown() {
        int[] money = {0, 99, 100, 101, 199, 200, MOST};
        int[] sums = {0, 0, 1, 1, 1, 2, 100000};
        for (int i = 0; i < money.length; i++) {
            FundBook book = new FundBook();
            book.setRates(1200, 0, 50);
            book.deposit(0, money[i]);
            book.closeMonth();
            expect.due("interest on " + money[i], -sums[i], book.interest(0));
            expect.due("margin", -sums[i], book.margin(0, 0));
            expect.due("treasury", 0, book.treasury(0));
        }
    }

    private static void eachBranchIsRoundedByItself() {
        FundBook book = new FundBook();
        book.setRates(1200, 0, 0);
        book.setCurve(1, 1200);
        for (int branch = 0; branch < 3; branch++) {
            book.deposit(branch, 99);
        }
        book.closeMonth();
        expect.due("three times 0.99 to customers", 0, book.interest(0));
        expect.due("three times 0.99 to branches", 0, book.treasury(0));
        for (int branch = 0; branch < 3; branch++) {
            book.deposit(branch, 100);
        }
        book.closeMonth();
        expect.due("three times 1.99 to customers", -3, book.interest(1));
        expect.due("three times 1.99 to branches", -3, book.treasury(1));
        FundBook cores = new FundBook();
        cores.setCurve(6, 1200);
        cores.deposit(0, 199);
        cores.deposit(1, 201);
        cores.closeMonth();
        expect.due("core of 199 by itself", 0, cores.margin(0, 0));
        expect.due("core of 201 by itself", 1, cores.margin(1, 0));
        expect.due("half of 400 were 2", -1, cores.treasury(0));
    }

    private static void replicaOfTheMonthThatEnds() {
        FundBook book = new FundBook();
        book.setRates(0, 0, 100);
        book.deposit(0, 720000);
        for (int month = 0; month < 12; month++) {
            book.setCurve(6, month < 6 ? 600 : 0);
            book.closeMonth();
            int tranches = month <= 6 ? month : 12 - month;
            expect.due("tranches at 600 in month " + month, 600 * tranches, book.margin(0, month));
            expect.due("treasury", -600 * tranches, book.treasury(month));
        }
    }

    private static void onlyTheBalanceAtTheEndCounts() {
        FundBook book = new FundBook();
        book.setRates(1200, 0, 0);
        book.setCurve(1, 2400);
        book.deposit(0, MOST);
        book.deposit(0, -MOST);
        book.closeMonth();
        expect.due("nothing at the end", 0, book.margin(0, 0));
        expect.due("nothing at the end", 0, book.interest(0));
        book.deposit(0, 100);
        book.closeMonth();
        expect.due("100 at the end", 1, book.margin(0, 1));
        expect.due("100 at the end", -1, book.interest(1));
        book.deposit(0, -100);
        book.closeMonth();
        expect.due("nothing again", 0, book.margin(0, 2));
        expect.due("nothing again", 0, book.treasury(2));
    }
}
