import java.util.ArrayList;
import java.util.List;

/**
 * Runs of calls drawn by a fixed sequence of numbers, each answer against a book that keeps no
 * running state: it reckons every answer anew from the list of what has happened.
 */
public final class ModelTest {
    private static final int RUNS = 1200;
    private static final int MOST_CALLS = 512;
    private static final int MOST_CALLS_OF_A_STEP = 12;
    private static final int[] EDGES = {
        -1, 0, 1, 2, 3, 5, 6, 7, 23, 24, 46, 47, 48, 50, 99, 100, 101, 4999, 5000, 5001,
        9999999, 10000000, 10000001, -10000000, -10000001, Integer.MIN_VALUE, Integer.MAX_VALUE
    };

    private static final Expect expect = new Expect("ModelTest");
    private static long seed = 20261119;

    public static void main(String[] args) {
        for (int run = 0; run < RUNS; run++) {
            new Pair(run).play();
        }
        expect.end();
    }

    private static int draw(int bound) {
        seed = seed * 6364136223846793005L + 1442695040888963407L;
        return (int) Math.floorMod(seed >>> 33, (long) bound);
    }

    /** Mostly within the bounds, now and then at an edge that another argument may have. */
    private static int drawIn(int low, int high) {
        if (draw(12) == 0) {
            return EDGES[draw(EDGES.length)];
        }
        switch (draw(5)) {
            case 0:
                return low;
            case 1:
                return high;
            default:
                return low + draw(high - low + 1);
        }
    }

    /** One object and its model, given the same calls. */
    private static final class Pair {
        private final FundBook book = new FundBook();
        private final Model model = new Model();
        private final int run;
        private final int closings;
        private int calls = 0;

        Pair(int run) {
            this.run = run;
            this.closings = 2 + draw(40);
        }

        void play() {
            while (calls <= MOST_CALLS - MOST_CALLS_OF_A_STEP) {
                String text = "run " + run + ", after call " + calls + ": ";
                if (draw(closings) == 0) {
                    compare(text + "closeMonth", model.closeMonth(), book::closeMonth);
                    compareMonth(text);
                } else if (draw(2) == 0) {
                    change(text);
                } else {
                    ask(text);
                }
            }
        }

        private void change(String text) {
            int branch = drawIn(0, 2);
            int rate = drawIn(0, 5000);
            int term = drawIn(1, 6);
            switch (draw(5)) {
                case 0:
                    compare(text + "setCurve", model.setCurve(term, rate),
                            () -> book.setCurve(term, rate));
                    break;
                case 1:
                    int option = drawIn(0, 5000);
                    int core = drawIn(0, 100);
                    compare(text + "setRates", model.setRates(rate, option, core), () -> {
                        book.setRates(rate, option, core);
                        return 0;
                    });
                    break;
                case 2:
                    lend(text, branch, rate, term);
                    break;
                case 3:
                    int loan = drawIn(0, model.loans.size());
                    compare(text + "repay " + loan, model.repay(loan), () -> book.repay(loan));
                    break;
                default:
                    int change = draw(2) == 0 ? drawIn(-10000000, 10000000) : drawIn(-99, 999);
                    compare(text + "deposit", model.deposit(branch, change),
                            () -> book.deposit(branch, change));
            }
        }

        private void lend(String text, int branch, int rate, int months) {
            int product = drawIn(0, 2);
            int amount = draw(2) == 0 ? drawIn(1, 10000000) : drawIn(1, 20);
            boolean hasOption = draw(2) == 0;
            compare(text + "lend", model.lend(branch, product, amount, rate, months, hasOption),
                    () -> book.lend(branch, product, amount, rate, months, hasOption));
        }

        private void ask(String text) {
            int loan = drawIn(0, model.loans.size());
            int small = drawIn(0, 5);
            int month = drawIn(0, model.month);
            switch (draw(6)) {
                case 0:
                    compare(text + "left " + loan, model.left(loan), () -> book.left(loan));
                    break;
                case 1:
                    int what = drawIn(0, 3);
                    compare(text + "bears " + loan + " " + what, model.bears(loan, what),
                            () -> book.bears(loan, what));
                    break;
                case 2:
                    compare(text + "due " + small, model.due(small), () -> book.due(small));
                    break;
                case 3:
                    compare(text + "tranche " + small, model.tranche(small),
                            () -> book.tranche(small));
                    break;
                case 4:
                    compare(text + "balance " + small, model.balance(small),
                            () -> book.balance(small));
                    compare(text + "replicaRate", model.replicaRate(), book::replicaRate);
                    compare(text + "month", model.month, book::month);
                    compare(text + "loans", model.loans.size(), book::loans);
                    break;
                default:
                    compare(text + "margin", model.margin(small, month),
                            () -> book.margin(small, month));
                    compare(text + "byProduct", model.byProduct(small, month),
                            () -> book.byProduct(small, month));
                    compare(text + "treasury", model.treasury(month), () -> book.treasury(month));
                    compare(text + "interest", model.interest(month), () -> book.interest(month));
            }
        }

        /** The first sentence of the terms: all margins are the interest, to the cent. */
        private void compareMonth(String text) {
            int ended = model.month - 1;
            if (ended < 0) {
                return;
            }
            long margins = 0;
            for (int branch = 0; branch < 3; branch++) {
                int asked = branch;
                margins += model.margin(branch, ended);
                compare(text + "margin " + branch, model.margin(branch, ended),
                        () -> book.margin(asked, ended));
                compare(text + "byProduct " + branch, model.byProduct(branch, ended),
                        () -> book.byProduct(asked, ended));
            }
            margins += model.treasury(ended);
            compare(text + "treasury", model.treasury(ended), () -> book.treasury(ended));
            compare(text + "interest", model.interest(ended), () -> book.interest(ended));
            expect.due(text + "all margins", model.interest(ended), margins);
        }

        private void compare(String text, long due, Expect.Call call) {
            calls++;
            if (due == Model.NO_INDEX) {
                expect.noIndex(text, call);
            } else if (due == Model.BAD_ARGUMENT) {
                expect.badArgument(text, call);
            } else if (due == Model.BAD_STATE) {
                expect.badState(text, call);
            } else {
                expect.due(text, due, call.answer());
            }
        }
    }

    /** What was when a month ended, or when a tranche was laid. */
    private static final class Snapshot {
        private long[] curve;
        private long[] balances;
        private long deposit;
        private long core;

        private long coreOfAll() {
            return (balances[0] + balances[1] + balances[2]) * core / 100;
        }
    }

    private static final class LoanRecord {
        private int branch;
        private int product;
        private long amount;
        private long rate;
        private int months;
        private boolean hasOption;
        private long optionRate;
        private long[] curve;
        private int birth;
        private int repaidIn = Integer.MAX_VALUE;

        /** The part at the end of a month, whatever has been repaid early. */
        private long part(int month) {
            int k = month - birth + 1;
            if (k < 1 || k > months) {
                return 0;
            }
            return k < months ? amount / months : amount - (months - 1) * (amount / months);
        }

        private long partDue(int month, int asOf) {
            return repaidIn <= asOf ? 0 : part(month);
        }

        private long open(int month) {
            long sum = 0;
            for (int later = month; later < birth + months; later++) {
                sum += partDue(later, month);
            }
            return birth > month ? 0 : sum;
        }

        private long bears(int month, int what) {
            long funding = 0;
            for (int later = month; later < birth + months && birth <= month; later++) {
                funding += partDue(later, month) * curve[later - birth + 1];
            }
            long[] sums = {open(month) * rate / 120000, funding / 120000,
                hasOption ? open(month) * optionRate / 120000 : 0};
            return what < 3 ? sums[what] : sums[0] - sums[1] - sums[2];
        }
    }

    /** The book anew, from the records. */
    private static final class Model {
        private static final long NO_INDEX = Long.MIN_VALUE;
        private static final long BAD_ARGUMENT = Long.MIN_VALUE + 1;
        private static final long BAD_STATE = Long.MIN_VALUE + 2;

        private final long[] curve = new long[7];
        private final long[] balances = new long[3];
        private long deposit = 0;
        private long option = 0;
        private long core = 50;
        private int month = 0;
        private final List<LoanRecord> loans = new ArrayList<>();
        private final List<Snapshot> endings = new ArrayList<>();
        private final List<Snapshot> beginnings = new ArrayList<>();
        private Snapshot lastChangeInMonthZero = null;

        private static boolean out(long value, long low, long high) {
            return value < low || value > high;
        }

        private Snapshot snapshot() {
            Snapshot shot = new Snapshot();
            shot.curve = curve.clone();
            shot.balances = balances.clone();
            shot.deposit = deposit;
            shot.core = core;
            return shot;
        }

        private long setCurve(int term, int rate) {
            if (out(term, 1, 6)) {
                return NO_INDEX;
            }
            if (out(rate, 0, 5000)) {
                return BAD_ARGUMENT;
            }
            long before = curve[term];
            curve[term] = rate;
            return before;
        }

        private long setRates(int newDeposit, int newOption, int newCore) {
            if (out(newDeposit, 0, 5000) || out(newOption, 0, 5000) || out(newCore, 0, 100)) {
                return BAD_ARGUMENT;
            }
            deposit = newDeposit;
            option = newOption;
            core = newCore;
            return 0;
        }

        private long lend(int branch, int product, int amount, int rate, int months, boolean with) {
            if (out(branch, 0, 2) || out(product, 0, 2)) {
                return NO_INDEX;
            }
            if (out(amount, 1, 10000000) || out(rate, 0, 5000) || out(months, 1, 6)) {
                return BAD_ARGUMENT;
            }
            if (loans.size() == 24) {
                return BAD_STATE;
            }
            LoanRecord loan = new LoanRecord();
            loan.branch = branch;
            loan.product = product;
            loan.amount = amount;
            loan.rate = rate;
            loan.months = months;
            loan.hasOption = with;
            loan.optionRate = option;
            loan.curve = curve.clone();
            loan.birth = month;
            loans.add(loan);
            return loans.size() - 1;
        }

        private long repay(int number) {
            if (out(number, 0, loans.size() - 1)) {
                return NO_INDEX;
            }
            LoanRecord loan = loans.get(number);
            long open = loan.open(month);
            if (!loan.hasOption || open == 0) {
                return BAD_STATE;
            }
            loan.repaidIn = month;
            return open;
        }

        private long deposit(int branch, int change) {
            if (out(branch, 0, 2)) {
                return NO_INDEX;
            }
            if (out(change, -10000000, 10000000)) {
                return BAD_ARGUMENT;
            }
            if (out(balances[branch] + change, 0, 10000000)) {
                return BAD_STATE;
            }
            balances[branch] += change;
            if (month == 0 && change != 0) {
                lastChangeInMonthZero = snapshot();
            }
            return balances[branch];
        }

        private long closeMonth() {
            if (month == 47) {
                return BAD_STATE;
            }
            endings.add(snapshot());
            month++;
            beginnings.add(snapshot());
            return month;
        }

        private long left(int number) {
            return out(number, 0, loans.size() - 1) ? NO_INDEX : loans.get(number).open(month);
        }

        private long bears(int number, int what) {
            if (out(number, 0, loans.size() - 1)) {
                return NO_INDEX;
            }
            return out(what, 0, 3) ? BAD_ARGUMENT : loans.get(number).bears(month, what);
        }

        private long due(int ahead) {
            if (out(ahead, 0, 5)) {
                return BAD_ARGUMENT;
            }
            long sum = 0;
            for (LoanRecord loan : loans) {
                sum += loan.partDue(month + ahead, month);
            }
            return sum;
        }

        private long balance(int branch) {
            return out(branch, 0, 2) ? NO_INDEX : balances[branch];
        }

        /** The snapshot that a tranche was laid from, as it stood in a month; null if none. */
        private Snapshot laid(int number, int asOf) {
            for (int back = asOf; back >= 1; back--) {
                if (back % 6 == number) {
                    return beginnings.get(back - 1);
                }
            }
            return lastChangeInMonthZero;
        }

        private long tranche(int number) {
            if (out(number, 0, 5)) {
                return NO_INDEX;
            }
            Snapshot shot = laid(number, month);
            return shot == null ? 0 : shot.coreOfAll() / 6;
        }

        private long replicaRate() {
            return replicaRate(month);
        }

        private long replicaRate(int asOf) {
            long amounts = 0;
            long weighted = 0;
            for (int number = 0; number < 6; number++) {
                Snapshot shot = laid(number, asOf);
                if (shot != null) {
                    amounts += shot.coreOfAll() / 6;
                    weighted += shot.coreOfAll() / 6 * shot.curve[6];
                }
            }
            return amounts == 0 ? 0 : weighted / amounts;
        }

        private long paid(int branch, int ended) {
            Snapshot end = endings.get(ended);
            long coreMoney = end.balances[branch] * end.core / 100;
            long fickle = end.balances[branch] - coreMoney;
            return (coreMoney * replicaRate(ended) + fickle * end.curve[1]) / 120000;
        }

        private long paidToCustomers(int branch, int ended) {
            Snapshot end = endings.get(ended);
            return end.balances[branch] * end.deposit / 120000;
        }

        private long margin(int branch, int ended) {
            if (out(branch, 0, 2) || out(ended, 0, month - 1)) {
                return NO_INDEX;
            }
            long sum = paid(branch, ended) - paidToCustomers(branch, ended);
            for (LoanRecord loan : loans) {
                sum += loan.branch == branch ? loan.bears(ended, 3) : 0;
            }
            return sum;
        }

        private long byProduct(int product, int ended) {
            if (out(product, 0, 2) || out(ended, 0, month - 1)) {
                return NO_INDEX;
            }
            long sum = 0;
            for (LoanRecord loan : loans) {
                sum += loan.product == product ? loan.bears(ended, 3) : 0;
            }
            return sum;
        }

        private long treasury(int ended) {
            if (out(ended, 0, month - 1)) {
                return NO_INDEX;
            }
            long sum = 0;
            for (LoanRecord loan : loans) {
                sum += loan.bears(ended, 1) + loan.bears(ended, 2);
            }
            for (int branch = 0; branch < 3; branch++) {
                sum -= paid(branch, ended);
            }
            return sum;
        }

        private long interest(int ended) {
            if (out(ended, 0, month - 1)) {
                return NO_INDEX;
            }
            long sum = 0;
            for (LoanRecord loan : loans) {
                sum += loan.bears(ended, 0);
            }
            for (int branch = 0; branch < 3; branch++) {
                sum -= paidToCustomers(branch, ended);
            }
            return sum;
        }
    }
}
