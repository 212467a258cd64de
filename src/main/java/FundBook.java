/**
 * A book of prices inside a bank: loans funded part by part at matched terms, deposits without a
 * term replicated by rolling tranches, and the margins of every month that has ended.
 */
public final class FundBook {

    private static final int BRANCHES = 3;
    private static final int PRODUCTS = 3;
    private static final int TERMS = 6;
    private static final int TRANCHES = 6;
    private static final int MAX_LOANS = 24;
    private static final int LAST_MONTH = 47;
    private static final int MAX_RATE = 5000;
    private static final int MAX_MONEY = 10000000;
    private static final int MAX_SHARE = 100;
    private static final int FIRST_SHARE = 50;

    /** A rate is in hundredths of a percent (10000 make the whole) for a year of 12 months. */
    private static final int RATE_UNITS = 120000;

    private final int[] curve;
    private int depositRate;
    private int optionRate;
    private int coreShare;
    private int now;

    private final Loan[] loanRows;
    private int loanCount;
    private final int[] balances;
    private final Replica replica;

    private final int[][] branchMargins;
    private final int[][] productMargins;
    private final int[] treasuryMargins;
    private final int[] bankInterests;

    public FundBook() {
        curve = new int[TERMS];
        depositRate = 0;
        optionRate = 0;
        coreShare = FIRST_SHARE;
        now = 0;
        loanRows = new Loan[MAX_LOANS];
        loanCount = 0;
        balances = new int[BRANCHES];
        replica = new Replica();
        branchMargins = new int[BRANCHES][LAST_MONTH];
        productMargins = new int[PRODUCTS][LAST_MONTH];
        treasuryMargins = new int[LAST_MONTH];
        bankInterests = new int[LAST_MONTH];
    }

    // ---- settings

    /**
     * Sets a rate of the curve, from now on.
     *
     * @param term 1 to 6 months
     * @param rate 0 to 5000
     * @return the rate before
     * @throws IndexOutOfBoundsException if there is no such term
     * @throws IllegalArgumentException if rate is out of range
     */
    public int setCurve(int term, int rate)
            throws IndexOutOfBoundsException, IllegalArgumentException {
        if (term < 1 || term > TERMS) {
            throw new IndexOutOfBoundsException("no such term");
        }
        if (rate < 0 || rate > MAX_RATE) {
            throw new IllegalArgumentException("rate out of range");
        }
        int before = curve[term - 1];
        curve[term - 1] = rate;
        return before;
    }

    /**
     * Sets the deposit rate, the option rate and the core share, from now on.
     *
     * @param deposit 0 to 5000
     * @param option 0 to 5000
     * @param core 0 to 100
     * @throws IllegalArgumentException if an argument is out of range
     */
    public void setRates(int deposit, int option, int core) throws IllegalArgumentException {
        if (deposit < 0 || deposit > MAX_RATE) {
            throw new IllegalArgumentException("deposit rate out of range");
        }
        if (option < 0 || option > MAX_RATE) {
            throw new IllegalArgumentException("option rate out of range");
        }
        if (core < 0 || core > MAX_SHARE) {
            throw new IllegalArgumentException("core share out of range");
        }
        depositRate = deposit;
        optionRate = option;
        coreShare = core;
    }

    // ---- deals

    /**
     * Makes a loan.
     *
     * @param branch 0 to 2
     * @param product 0 to 2
     * @param amount 1 to 10000000
     * @param rate 0 to 5000
     * @param months 1 to 6
     * @param hasOption whether it has an option
     * @return its number
     * @throws IndexOutOfBoundsException if there is no such branch or product
     * @throws IllegalArgumentException if another argument is out of range
     * @throws IllegalStateException if there are 24 loans
     */
    public int lend(int branch, int product, int amount, int rate, int months, boolean hasOption)
            throws IndexOutOfBoundsException, IllegalArgumentException, IllegalStateException {
        if (branch < 0 || branch >= BRANCHES || product < 0 || product >= PRODUCTS) {
            throw new IndexOutOfBoundsException("no such branch or product");
        }
        if (amount < 1 || amount > MAX_MONEY) {
            throw new IllegalArgumentException("amount out of range");
        }
        if (rate < 0 || rate > MAX_RATE) {
            throw new IllegalArgumentException("rate out of range");
        }
        if (months < 1 || months > TERMS) {
            throw new IllegalArgumentException("months out of range");
        }
        if (loanCount >= MAX_LOANS) {
            throw new IllegalStateException("there are 24 loans");
        }
        int[] parts = cutIntoParts(amount, amount / months, months);
        int loanOptionRate = hasOption ? optionRate : 0;
        int number = loanCount;
        loanRows[number] =
                new Loan(branch, product, rate, hasOption, loanOptionRate, parts, curve.clone());
        loanCount = number + 1;
        return number;
    }

    /**
     * Repays a loan early.
     *
     * @param loan a loan
     * @return what was not paid back
     * @throws IndexOutOfBoundsException if there is no such loan
     * @throws IllegalStateException if it has no option, or is paid back
     */
    public int repay(int loan) throws IndexOutOfBoundsException, IllegalStateException {
        Loan row = findLoan(loan);
        if (row == null) {
            throw new IndexOutOfBoundsException("no such loan");
        }
        int unpaid = row.unpaid();
        if (!row.hasOption || unpaid == 0) {
            throw new IllegalStateException("it has no option, or is paid back");
        }
        row.settle();
        return unpaid;
    }

    /**
     * Changes the balance of deposits of a branch.
     *
     * @param branch 0 to 2
     * @param change -10000000 to 10000000
     * @return the balance then
     * @throws IndexOutOfBoundsException if there is no such branch
     * @throws IllegalArgumentException if change is out of range
     * @throws IllegalStateException if the balance would be below 0 or above 10000000
     */
    public int deposit(int branch, int change)
            throws IndexOutOfBoundsException, IllegalArgumentException, IllegalStateException {
        if (branch < 0 || branch >= BRANCHES) {
            throw new IndexOutOfBoundsException("no such branch");
        }
        if (change < -MAX_MONEY || change > MAX_MONEY) {
            throw new IllegalArgumentException("change out of range");
        }
        int after = balances[branch] + change;
        if (after < 0 || after > MAX_MONEY) {
            throw new IllegalStateException("balance out of range");
        }
        balances[branch] = after;
        if (now == 0 && change != 0) {
            replica.layAll(trancheAmount(), curve[TERMS - 1]);
        }
        return after;
    }

    /**
     * Ends the month.
     *
     * @return the month then
     * @throws IllegalStateException if it is the month 47
     */
    public int closeMonth() throws IllegalStateException {
        if (now >= LAST_MONTH) {
            throw new IllegalStateException("it is the last month");
        }
        reckonLoans();
        reckonDeposits();
        payParts();
        now = now + 1;
        replica.lay(now % TRANCHES, trancheAmount(), curve[TERMS - 1]);
        return now;
    }

    // ---- what there is

    /**
     * Tells the month of now.
     *
     * @return the month
     */
    public int month() {
        return now;
    }

    /**
     * Tells how many loans there are, those paid back among them.
     *
     * @return the number of loans
     */
    public int loans() {
        return loanCount;
    }

    /**
     * Tells what of a loan is not paid back.
     *
     * @param loan a loan
     * @return the sum
     * @throws IndexOutOfBoundsException if there is no such loan
     */
    public int left(int loan) throws IndexOutOfBoundsException {
        Loan row = findLoan(loan);
        if (row == null) {
            throw new IndexOutOfBoundsException("no such loan");
        }
        return row.unpaid();
    }

    /**
     * Tells what a loan bears in the month of now: the customer's interest, the funding, the
     * option, or the margin.
     *
     * @param loan a loan
     * @param what 0 to 3, in that order
     * @return the sum
     * @throws IndexOutOfBoundsException if there is no such loan
     * @throws IllegalArgumentException if what is out of range
     */
    public int bears(int loan, int what)
            throws IndexOutOfBoundsException, IllegalArgumentException {
        Loan row = findLoan(loan);
        if (row == null) {
            throw new IndexOutOfBoundsException("no such loan");
        }
        switch (what) {
            case 0:
                return row.customerInterest();
            case 1:
                return row.funding();
            case 2:
                return row.optionCharge();
            case 3:
                return row.ownMargin();
            default:
                throw new IllegalArgumentException("what out of range");
        }
    }

    /**
     * Tells what is paid back of all loans at the end of a month.
     *
     * @param ahead 0 for the month of now, to 5
     * @return the sum of the parts
     * @throws IllegalArgumentException if ahead is out of range
     */
    public int due(int ahead) throws IllegalArgumentException {
        if (ahead < 0 || ahead >= TERMS) {
            throw new IllegalArgumentException("ahead out of range");
        }
        int sum = 0;
        for (Loan row : loanRows) {
            if (row != null) {
                sum += row.partAhead(ahead);
            }
        }
        return sum;
    }

    /**
     * Tells the balance of deposits of a branch.
     *
     * @param branch 0 to 2
     * @return the balance
     * @throws IndexOutOfBoundsException if there is no such branch
     */
    public int balance(int branch) throws IndexOutOfBoundsException {
        if (branch < 0 || branch >= BRANCHES) {
            throw new IndexOutOfBoundsException("no such branch");
        }
        return balances[branch];
    }

    /**
     * Tells the amount of a tranche of the replica.
     *
     * @param tranche 0 to 5
     * @return the amount
     * @throws IndexOutOfBoundsException if there is no such tranche
     */
    public int tranche(int tranche) throws IndexOutOfBoundsException {
        if (tranche < 0 || tranche >= TRANCHES) {
            throw new IndexOutOfBoundsException("no such tranche");
        }
        return replica.amounts[tranche];
    }

    /**
     * Tells the rate of the replica.
     *
     * @return the rate, 0 without amounts
     */
    public int replicaRate() {
        return replica.averageRate();
    }

    // ---- margins of months that have ended

    /**
     * Tells the margin of a branch.
     *
     * @param branch 0 to 2
     * @param month a month that has ended
     * @return the margin
     * @throws IndexOutOfBoundsException if there is no such branch, or the month has not ended
     */
    public int margin(int branch, int month) throws IndexOutOfBoundsException {
        if (branch < 0 || branch >= BRANCHES || !hasEnded(month)) {
            throw new IndexOutOfBoundsException("no such branch, or the month has not ended");
        }
        return branchMargins[branch][month];
    }

    /**
     * Tells the margin of a product.
     *
     * @param product 0 to 2
     * @param month a month that has ended
     * @return the margin
     * @throws IndexOutOfBoundsException if there is no such product, or the month has not ended
     */
    public int byProduct(int product, int month) throws IndexOutOfBoundsException {
        if (product < 0 || product >= PRODUCTS || !hasEnded(month)) {
            throw new IndexOutOfBoundsException("no such product, or the month has not ended");
        }
        return productMargins[product][month];
    }

    /**
     * Tells the margin of the treasury.
     *
     * @param month a month that has ended
     * @return the margin
     * @throws IndexOutOfBoundsException if the month has not ended
     */
    public int treasury(int month) throws IndexOutOfBoundsException {
        if (!hasEnded(month)) {
            throw new IndexOutOfBoundsException("the month has not ended");
        }
        return treasuryMargins[month];
    }

    /**
     * Tells the interest of the bank.
     *
     * @param month a month that has ended
     * @return the interest
     * @throws IndexOutOfBoundsException if the month has not ended
     */
    public int interest(int month) throws IndexOutOfBoundsException {
        if (!hasEnded(month)) {
            throw new IndexOutOfBoundsException("the month has not ended");
        }
        return bankInterests[month];
    }

    private boolean hasEnded(int month) {
        return month >= 0 && month < now;
    }

    /** Answers null where there is no such loan: rows that are not lent yet hold null. */
    private Loan findLoan(int number) {
        return number < 0 || number >= MAX_LOANS ? null : loanRows[number];
    }

    /** All rows are as long as the longest term: parts that a shorter loan lacks are just 0. */
    private static int[] cutIntoParts(int amount, int part, int months) {
        int[] parts = new int[TERMS];
        for (int k = 0; k < TERMS; k++) {
            if (k < months - 1) {
                parts[k] = part;
            } else if (k == months - 1) {
                parts[k] = amount - part * (months - 1);
            }
        }
        return parts;
    }

    private static int forOneMonth(long moneyTimesRate) {
        return (int) (moneyTimesRate / RATE_UNITS);
    }

    private int coreOf(long money) {
        return (int) (money * coreShare / 100);
    }

    private int trancheAmount() {
        long all = 0;
        for (int balance : balances) {
            all += balance;
        }
        return coreOf(all) / TRANCHES;
    }

    /** Writes the month's rows for the first time; reckonDeposits adds to them. */
    private void reckonLoans() {
        for (int branch = 0; branch < BRANCHES; branch++) {
            branchMargins[branch][now] = loanMarginsOfBranch(branch);
        }
        for (int product = 0; product < PRODUCTS; product++) {
            productMargins[product][now] = loanMarginsOfProduct(product);
        }
        int toTreasury = 0;
        int fromCustomers = 0;
        for (Loan row : loanRows) {
            if (row != null) {
                toTreasury += row.funding() + row.optionCharge();
                fromCustomers += row.customerInterest();
            }
        }
        treasuryMargins[now] = toTreasury;
        bankInterests[now] = fromCustomers;
    }

    private int loanMarginsOfBranch(int branch) {
        int sum = 0;
        for (Loan row : loanRows) {
            if (row != null && row.branch == branch) {
                sum += row.ownMargin();
            }
        }
        return sum;
    }

    private int loanMarginsOfProduct(int product) {
        int sum = 0;
        for (Loan row : loanRows) {
            if (row != null && row.product == product) {
                sum += row.ownMargin();
            }
        }
        return sum;
    }

    private void reckonDeposits() {
        int coreRate = replica.averageRate();
        for (int branch = 0; branch < BRANCHES; branch++) {
            int fromTreasury = paidForDeposits(balances[branch], coreRate);
            int toCustomers = forOneMonth((long) balances[branch] * depositRate);
            branchMargins[branch][now] += fromTreasury - toCustomers;
            treasuryMargins[now] -= fromTreasury;
            bankInterests[now] -= toCustomers;
        }
    }

    /** The core and the fickle part are rounded together, once. */
    private int paidForDeposits(int money, int coreRate) {
        int core = coreOf(money);
        int fickle = money - core;
        return forOneMonth((long) core * coreRate + (long) fickle * curve[0]);
    }

    private void payParts() {
        for (Loan row : loanRows) {
            if (row != null) {
                row.payPart();
            }
        }
    }

    /** A loan with the rates of its birth; only the count of the parts paid back changes. */
    private static final class Loan {
        private final int branch;
        private final int product;
        private final int rate;
        private final boolean hasOption;
        private final int optionRate;
        private final int[] parts;
        private final int[] fundingRates;
        private int paidParts;

        private Loan(int branch, int product, int rate, boolean hasOption, int optionRate,
                int[] parts, int[] fundingRates) {
            this.branch = branch;
            this.product = product;
            this.rate = rate;
            this.hasOption = hasOption;
            this.optionRate = optionRate;
            this.parts = parts;
            this.fundingRates = fundingRates;
            this.paidParts = 0;
        }

        private int unpaid() {
            int sum = 0;
            for (int k = paidParts; k < TERMS; k++) {
                sum += parts[k];
            }
            return sum;
        }

        private int partAhead(int ahead) {
            int k = paidParts + ahead;
            return k < TERMS ? parts[k] : 0;
        }

        private int customerInterest() {
            return forOneMonth((long) unpaid() * rate);
        }

        /** The parts' fundings are rounded together, once. */
        private int funding() {
            long sum = 0;
            for (int k = paidParts; k < TERMS; k++) {
                sum += (long) parts[k] * fundingRates[k];
            }
            return forOneMonth(sum);
        }

        private int optionCharge() {
            return forOneMonth((long) unpaid() * optionRate);
        }

        private int ownMargin() {
            return customerInterest() - funding() - optionCharge();
        }

        private void payPart() {
            if (paidParts < TERMS) {
                paidParts = paidParts + 1;
            }
        }

        private void settle() {
            paidParts = TERMS;
        }
    }

    /** The tranches that stand for the core of the deposits. */
    private static final class Replica {
        private final int[] amounts;
        private final int[] rates;

        private Replica() {
            amounts = new int[TRANCHES];
            rates = new int[TRANCHES];
        }

        private void lay(int number, int amount, int rate) {
            if (number >= 0 && number < TRANCHES) {
                amounts[number] = amount;
                rates[number] = rate;
            }
        }

        private void layAll(int amount, int rate) {
            for (int number = 0; number < TRANCHES; number++) {
                lay(number, amount, rate);
            }
        }

        private int averageRate() {
            long amount = 0;
            long weighted = 0;
            for (int number = 0; number < TRANCHES; number++) {
                amount += amounts[number];
                weighted += (long) amounts[number] * rates[number];
            }
            return amount > 0 ? (int) (weighted / amount) : 0;
        }
    }
}
