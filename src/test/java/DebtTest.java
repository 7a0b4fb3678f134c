import java.util.NoSuchElementException;

/** Promises 34 to 39 and 42: assets, debts with interest, enforcement and insolvency. */
public final class DebtTest {
    private static final Class<IllegalArgumentException> ARGUMENT = IllegalArgumentException.class;
    private static final Class<IndexOutOfBoundsException> INDEX = IndexOutOfBoundsException.class;
    private static final Class<UnsupportedOperationException> UNSUPPORTED = UnsupportedOperationException.class;
    private static final Class<NoSuchElementException> NONE = NoSuchElementException.class;

    public static void main(String[] args) {
        give();
        interest();
        interestWhileStayed();
        interestAfterReversal();
        ranks();
        enforce();
        enforceTwice();
        insolvencyShares();
        insolvencyRemainder();
        insolvencyOfFinalDebts();
        insolvencyWithPlenty();
        wealth();
        Check.end();
    }

    /** An order whose issue 0 is always held. */
    private static Courtyard withLaw() {
        Courtyard x = new Courtyard();
        x.enact(3, 0, true, -1);
        x.act(0, true, 0);
        return x;
    }

    private static int judged(Courtyard x, int plaintiff, int defendant, int amount, int court) {
        int number = x.begin(plaintiff, defendant, 0, amount, court, 0);
        x.answer(number, 255, false);
        x.judge(number);
        return number;
    }

    private static void give() {
        Courtyard x = new Courtyard();
        Check.fails("34: person 10", ARGUMENT, () -> x.give(10, 1));
        Check.fails("34: person -1", ARGUMENT, () -> x.give(-1, 1));
        Check.fails("34: amount 0", ARGUMENT, () -> x.give(0, 0));
        Check.fails("34: amount 100000", ARGUMENT, () -> x.give(0, 100000));
        Check.fails("35: person 10", ARGUMENT, () -> x.assets(10));
        Check.fails("35: person -1", ARGUMENT, () -> x.assets(-1));
        Check.same("34: given", x.give(9, 5), 5);
        Check.same("34: more", x.give(9, 99999), 100004);
        Check.same("35: assets", x.assets(9), 100004);
        Check.same("35: of others", x.assets(8), 0);
        for (int i = 1; i <= 100; i++) {
            Check.same("34: sum", x.give(1, 99999), 99999L * i);
        }
        Check.fails("34: 10000000", UNSUPPORTED, () -> x.give(1, 100));
        Check.same("34: 9999999", x.give(1, 99), 9999999);
        Check.fails("34: 1 more", UNSUPPORTED, () -> x.give(1, 1));
        Check.same("35: unchanged", x.assets(1), 9999999);
    }

    private static void interest() {
        Courtyard x = withLaw();
        Check.fails("36: case 0", INDEX, () -> x.debt(0));
        x.advance(3);
        judged(x, 0, 1, 99999, 0);
        Check.same("36: from its day on", x.debt(0), 99999);
        x.advance(9);
        Check.same("36: nine days", x.debt(0), 99999);
        x.advance(1);
        Check.same("36: ten days", x.debt(0), 99999 + 99);
        x.advance(10);
        Check.same("36: of the debt as it is then", x.debt(0), 100098 + 100);
        x.advance(100);
        int due = 100198;
        for (int i = 0; i < 10; i++) {
            due += due / 1000;
        }
        Check.same("36: hundred days at once", x.debt(0), due);
        judged(x, 2, 1, 999, 0);
        x.advance(50);
        Check.same("36: less than 1000 stays", x.debt(1), 999);
    }

    private static void interestWhileStayed() {
        Courtyard x = withLaw();
        judged(x, 0, 1, 5000, 0);
        x.advance(5);
        x.appeal(0);
        x.advance(6);
        Check.same("36: while it is stayed", x.debt(0), 5005);
        Check.same("24: affirmed", x.decide(0), 'a');
        Check.same("36: left as it is", x.debt(0), 5005);
        x.advance(8);
        Check.same("36: the 19th day", x.debt(0), 5005);
        x.advance(1);
        Check.same("36: the 20th day of the old judgment", x.debt(0), 5010);
    }

    private static void interestAfterReversal() {
        Courtyard x = withLaw();
        x.act(0, false, 0);
        judged(x, 0, 1, 5000, 0);
        x.advance(15);
        x.appeal(0);
        x.act(0, true, 0);
        Check.same("24: reversed", x.decide(0), 'r');
        Check.same("36: from its own day on", x.debt(0), 5000);
        x.advance(9);
        Check.same("36: nine days", x.debt(0), 5000);
        x.advance(1);
        Check.same("36: ten days", x.debt(0), 5005);
        x.appeal(0);
        x.act(0, false, 0);
        Check.same("24: reversed again", x.decide(0), 'r');
        Check.same("36: taken away", x.debt(0), 0);
        x.advance(50);
        Check.same("36: nothing grows", x.debt(0), 0);
    }

    private static void ranks() {
        Courtyard x = withLaw();
        Check.fails("37: case 0", INDEX, () -> x.setRank(0, 4));
        x.begin(0, 1, 0, 5, 0, 0);
        Check.fails("37: rank 4", ARGUMENT, () -> x.setRank(0, 4));
        Check.fails("37: rank -1", ARGUMENT, () -> x.setRank(0, -1));
        Check.same("37: 0 at first", x.setRank(0, 3), 0);
        Check.same("37: the one before", x.setRank(0, 1), 3);
        Check.same("37: again", x.setRank(0, 0), 1);
    }

    private static void enforce() {
        Courtyard x = withLaw();
        Check.fails("38: case 0", INDEX, () -> x.enforce(0));
        x.begin(0, 1, 0, 500, 0, 0);
        Check.fails("38: not judged", UNSUPPORTED, () -> x.enforce(0));
        x.advance(40);
        Check.fails("38: not judged for long", UNSUPPORTED, () -> x.enforce(0));
        x.answer(0, 255, false);
        x.judge(0);
        x.give(1, 300);
        x.advance(30);
        Check.fails("38: not final", UNSUPPORTED, () -> x.enforce(0));
        x.advance(1);
        Check.same("38: up to the assets", x.enforce(0), 300);
        Check.same("36: what is left", x.debt(0), 200);
        Check.same("35: taken", x.assets(1), 0);
        Check.same("35: given", x.assets(0), 300);
        Check.same("38: nothing to take", x.enforce(0), 0);
        x.give(1, 1000);
        Check.same("38: up to the debt", x.enforce(0), 200);
        Check.same("35: the rest stays", x.assets(1), 800);
        Check.fails("38: no debt", NONE, () -> x.enforce(0));
        int lost = x.begin(2, 1, 1, 5, 2, 0);
        x.answer(lost, 255, false);
        x.judge(lost);
        Check.fails("38: final, without a debt", NONE, () -> x.enforce(lost));
        x.insolvency(1);
        Check.fails("38: insolvent ahead of no debt", UNSUPPORTED, () -> x.enforce(lost));
    }

    private static void enforceTwice() {
        Courtyard x = withLaw();
        judged(x, 0, 1, 10000, 2);
        x.give(1, 9000);
        Check.same("38: court 2 at once", x.enforce(0), 9000);
        x.advance(10);
        Check.same("36: interest of what is left", x.debt(0), 1001);
    }

    private static void insolvencyShares() {
        Courtyard x = withLaw();
        Check.fails("39: person 10", ARGUMENT, () -> x.insolvency(10));
        Check.fails("39: person -1", ARGUMENT, () -> x.insolvency(-1));
        judged(x, 1, 0, 300, 2);
        judged(x, 2, 0, 100, 2);
        judged(x, 3, 0, 200, 2);
        judged(x, 4, 0, 50, 2);
        x.setRank(0, 1);
        x.setRank(2, 1);
        x.setRank(3, 2);
        x.give(0, 200);
        Check.same("39: divided", x.insolvency(0), 200);
        Check.same("35: the lower rank goes ahead", x.assets(2), 100);
        Check.same("35: 100 * 300 / 500", x.assets(1), 60);
        Check.same("35: 100 * 200 / 500", x.assets(3), 40);
        Check.same("35: nothing is left", x.assets(4), 0);
        Check.same("35: nothing stays", x.assets(0), 0);
        Check.same("36: debt 0", x.debt(0), 240);
        Check.same("36: debt 1", x.debt(1), 0);
        Check.same("36: debt 2", x.debt(2), 160);
        Check.same("36: debt 3", x.debt(3), 50);
        Check.fails("39: insolvent", UNSUPPORTED, () -> x.insolvency(0));
        x.give(0, 1000);
        Check.fails("38: insolvent", UNSUPPORTED, () -> x.enforce(0));
        int later = judged(x, 5, 0, 10, 2);
        Check.fails("38: later debts too", UNSUPPORTED, () -> x.enforce(later));
        judged(x, 0, 6, 10, 2);
        x.give(6, 10);
        Check.same("38: an insolvent plaintiff gets", x.enforce(later + 1), 10);
    }

    private static void insolvencyRemainder() {
        Courtyard x = withLaw();
        for (int i = 1; i <= 4; i++) {
            judged(x, i, 0, 3, 2);
        }
        x.give(0, 11);
        Check.same("39: divided", x.insolvency(0), 11);
        Check.same("35: 11 * 3 / 12 is 2, and 1", x.assets(1), 3);
        Check.same("35: and 1", x.assets(2), 3);
        Check.same("35: and 1", x.assets(3), 3);
        Check.same("35: no more", x.assets(4), 2);
        Courtyard y = withLaw();
        judged(y, 1, 0, 99999, 2);
        judged(y, 2, 0, 99999, 2);
        judged(y, 3, 0, 99998, 2);
        y.give(0, 99999);
        y.give(0, 99998);
        Check.same("39: large numbers", y.insolvency(0), 199997);
        Check.same("35: large, and 1", y.assets(1), 199997L * 99999 / 299996 + 1);
        Check.same("35: large", y.assets(3), 199997L * 99998 / 299996);
        Check.same("42: nothing is lost", y.wealth(), 299996);
    }

    private static void insolvencyOfFinalDebts() {
        Courtyard x = withLaw();
        judged(x, 1, 0, 100, 2);
        judged(x, 2, 0, 100, 0);
        judged(x, 3, 0, 100, 1);
        judged(x, 0, 4, 100, 2);
        x.appeal(2);
        x.advance(31);
        Check.fails("38: stayed for long", UNSUPPORTED, () -> x.enforce(2));
        x.begin(5, 0, 0, 100, 0, 31);
        x.answer(4, 255, false);
        x.judge(4);
        x.setRank(1, 1);
        x.give(0, 250);
        Check.same("39: only final debts", x.insolvency(0), 200);
        Check.same("35: the rest stays", x.assets(0), 50);
        Check.same("36: final by its days", x.debt(1), 0);
        Check.same("36: judged", x.debt(4), 100);
        Check.same("36: stayed", x.debt(2), 100);
        Check.same("36: debts to the person", x.debt(3), 100);
        Check.same("39: without debts", x.insolvency(9), 0);
        Check.fails("39: insolvent without debts", UNSUPPORTED, () -> x.insolvency(9));
        x.give(4, 60);
        Check.same("38: others still pay", x.enforce(3), 60);
        Check.same("39: paid in part", x.insolvency(4), 0);
    }

    private static void insolvencyWithPlenty() {
        Courtyard x = withLaw();
        judged(x, 1, 0, 30, 2);
        judged(x, 2, 0, 20, 2);
        judged(x, 3, 0, 10, 2);
        x.setRank(0, 3);
        x.give(0, 30);
        x.enforce(1);
        Check.same("36: paid ahead", x.debt(1), 0);
        x.give(0, 30);
        Check.same("39: exactly", x.insolvency(0), 40);
        Check.same("36: all paid", x.debt(0) + x.debt(1) + x.debt(2), 0);
        Check.same("35: nothing is left", x.assets(0), 0);
    }

    private static void wealth() {
        Courtyard x = withLaw();
        x.give(0, 10);
        x.give(9, 20);
        judged(x, 1, 0, 1000, 2);
        Check.same("42: debts and assets", x.wealth(), 1030);
        x.enforce(0);
        Check.same("42: what is paid is no debt", x.wealth(), 1020 + 10 - 10);
        x.advance(10);
        Check.same("42: interest of 990 is nothing", x.wealth(), 1020);
        for (int person = 0; person < 10; person++) {
            for (int i = 0; i < 45; i++) {
                x.give(person, 99999);
            }
        }
        Check.same("42: a large sum", x.wealth(), 1020 + 450L * 99999);
    }
}
