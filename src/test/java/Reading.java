import java.util.ArrayList;
import java.util.List;

/**
 * All that a book answers, as lines: two books with the same lines hold the same. What only
 * later calls show (the settings) is read by making such calls, so a book is read once.
 */
final class Reading {
    private static final int MOST = 10000000;
    private static final int LAST_MONTH = 47;

    private final FundBook book;
    private final List<String> lines = new ArrayList<>();

    private Reading(FundBook book) {
        this.book = book;
    }

    /** Makes some 340 calls on a book with 24 loans. */
    static List<String> of(FundBook book) {
        Reading reading = new Reading(book);
        reading.loans();
        reading.deposits();
        reading.endedMonth(0);
        reading.endedMonth(book.month() - 1);
        reading.loanBornNow();
        reading.monthThatEndsNow();
        reading.curve();
        return reading.lines;
    }

    private void line(String what, long answer) {
        lines.add(what + " = " + answer);
    }

    private void loans() {
        line("month", book.month());
        line("loans", book.loans());
        for (int loan = 0; loan < book.loans(); loan++) {
            line("left of " + loan, book.left(loan));
            for (int what = 0; what < 4; what++) {
                line("bears of " + loan + " " + what, book.bears(loan, what));
            }
        }
        for (int ahead = 0; ahead < 6; ahead++) {
            line("due " + ahead, book.due(ahead));
        }
    }

    private void deposits() {
        for (int branch = 0; branch < 3; branch++) {
            line("balance " + branch, book.balance(branch));
        }
        for (int tranche = 0; tranche < 6; tranche++) {
            line("tranche " + tranche, book.tranche(tranche));
        }
        line("replicaRate", book.replicaRate());
    }

    private void endedMonth(int month) {
        if (month < 0 || month >= book.month()) {
            return;
        }
        for (int i = 0; i < 3; i++) {
            line("margin " + i + " of month " + month, book.margin(i, month));
            line("byProduct " + i + " of month " + month, book.byProduct(i, month));
        }
        line("treasury of month " + month, book.treasury(month));
        line("interest of month " + month, book.interest(month));
    }

    /** Shows the option rate, and that the next number is as before. */
    private void loanBornNow() {
        if (book.loans() < 24) {
            int loan = book.lend(1, 1, MOST, 1, 6, true);
            line("number of the next loan", loan);
            line("its funding", book.bears(loan, 1));
            line("its option", book.bears(loan, 2));
        }
    }

    /** Shows the deposit rate and the core share, at balances that are far above 0. */
    private void monthThatEndsNow() {
        if (book.month() >= LAST_MONTH) {
            return;
        }
        int change = MOST - book.balance(2);
        line("balance then", book.deposit(2, change));
        deposits();
        line("month then", book.closeMonth());
        endedMonth(book.month() - 1);
        deposits();
        for (int loan = 0; loan < book.loans(); loan++) {
            line("left then of " + loan, book.left(loan));
        }
    }

    private void curve() {
        for (int term = 1; term <= 6; term++) {
            line("rate before of term " + term, book.setCurve(term, 0));
        }
    }
}
