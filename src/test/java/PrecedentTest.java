import java.util.NoSuchElementException;

/** Promises 23, 24, 27 and 32: precedents, overruling and appeals. */
public final class PrecedentTest {
    private static final Class<IndexOutOfBoundsException> INDEX = IndexOutOfBoundsException.class;
    private static final Class<UnsupportedOperationException> UNSUPPORTED = UnsupportedOperationException.class;
    private static final Class<NoSuchElementException> NONE = NoSuchElementException.class;

    public static void main(String[] args) {
        isPrecedent();
        likeness();
        courts();
        ranks();
        latest();
        conditionsByPrecedent();
        overruling();
        overrulingNeedsLikeness();
        appeal();
        appealTime();
        decide();
        decideBarred();
        decidedPrecedent();
        decideByDefaultRecord();
        Check.end();
    }

    /** Puts a section of issue 0 in force that says yes if the fact 1 is found. */
    private static Courtyard withLaw(int rank) {
        Courtyard x = new Courtyard();
        x.enact(rank, 0, true, -1);
        x.condition(0, 'f', 1);
        x.act(0, true, 0);
        return x;
    }

    private static int judged(Courtyard x, int plaintiff, int court, boolean isFound) {
        int number = begun(x, plaintiff, court, isFound);
        x.judge(number);
        return number;
    }

    private static int begun(Courtyard x, int plaintiff, int court, boolean isFound) {
        int number = x.begin(plaintiff, 9, 0, 100, court, 0);
        if (isFound) {
            x.concede(number, 1);
        }
        x.answer(number, 255, false);
        return number;
    }

    private static void isPrecedent() {
        Courtyard x = withLaw(0);
        Check.fails("32: case 0", INDEX, () -> x.isPrecedent(0));
        begun(x, 0, 0, true);
        Check.fails("32: not judged", NONE, () -> x.isPrecedent(0));
        x.judge(0);
        Check.same("32: for the plaintiff", x.isPrecedent(0), true);
        judged(x, 1, 0, false);
        Check.same("32: against the plaintiff", x.isPrecedent(1), true);
    }

    private static void likeness() {
        Courtyard x = withLaw(0);
        judged(x, 0, 0, true);
        x.act(0, false, 0);
        begun(x, 1, 0, false);
        Check.same("33: not alike", x.wouldHold(1, 0), false);
        int alike = begun(x, 2, 0, true);
        x.concede(alike, 5);
        Check.same("33: other facts do not count", x.wouldHold(alike, 0), true);
        x.enact(0, 0, false, -1);
        x.condition(1, 'n', 5);
        Check.same("33: named by a section that never was in force", x.wouldHold(alike, 0), false);
        int plain = begun(x, 3, 0, true);
        Check.same("33: alike in both facts", x.wouldHold(plain, 0), true);
        int unlike = begun(x, 4, 0, false);
        Check.same("33: the facts of the first section count too", x.wouldHold(unlike, 0), false);
        x.judge(plain);
        Check.same("31: by the precedent", x.rowBy(plain, 0), 100);
        Check.same("33: of another issue", x.wouldHold(plain, 1), false);
    }

    private static void courts() {
        Courtyard x = withLaw(0);
        judged(x, 0, 1, true);
        x.act(0, false, 0);
        begun(x, 1, 0, true);
        begun(x, 2, 1, true);
        begun(x, 3, 2, true);
        Check.same("33: a higher court binds", x.wouldHold(1, 0), true);
        Check.same("33: the same court binds", x.wouldHold(2, 0), true);
        Check.same("33: a lower court does not", x.wouldHold(3, 0), false);
        Check.same("33: not in its own case", x.wouldHold(0, 0), false);
    }

    private static void ranks() {
        for (int rank = 0; rank < 4; rank++) {
            Courtyard x = withLaw(0);
            judged(x, 0, 0, true);
            x.enact(rank, 0, false, -1);
            x.act(1, true, 0);
            x.act(0, false, 0);
            int number = judged(x, 1, 0, true);
            Check.same("22: rank " + rank, x.outcome(number), rank <= 1);
            Check.same("31: rank " + rank, x.rowBy(number, 0), rank <= 1 ? 100 : 1);
        }
    }

    private static void latest() {
        Courtyard x = withLaw(2);
        int first = judged(x, 0, 1, true);
        x.act(0, false, 0);
        x.enact(2, 0, false, -1);
        x.act(1, true, 0);
        int second = judged(x, 1, 0, true);
        x.act(1, false, 0);
        int asked = begun(x, 2, 0, true);
        Check.same("32: the higher one stands", x.isPrecedent(first), true);
        Check.same("32: the lower one stands", x.isPrecedent(second), true);
        Check.same("33: the highest court counts ahead of the latest", x.wouldHold(asked, 0), true);
        x.judge(asked);
        int third = judged(x, 3, 0, true);
        Check.same("31: the highest court", x.rowBy(third, 0), 100 + first);
        latestByJudgment();
        Courtyard y = withLaw(0);
        judged(y, 0, 1, true);
        judged(y, 1, 1, true);
        int last = judged(y, 2, 1, true);
        Check.same("31: the latest of several", y.rowBy(last, 0), 101);
        y.appeal(0);
        y.decide(0);
        int low = judged(y, 3, 1, true);
        Check.same("31: a decided one has the highest court", y.rowBy(low, 0), 100);
    }

    private static void latestByJudgment() {
        Courtyard x = withLaw(2);
        int first = begun(x, 0, 1, true);
        int second = begun(x, 1, 1, true);
        int third = begun(x, 2, 1, true);
        x.judge(second);
        x.judge(third);
        x.judge(first);
        x.act(0, false, 0);
        int number = judged(x, 3, 1, true);
        Check.same("31: the latest judgment, not the last case", x.rowBy(number, 0), 100 + first);
    }

    private static void conditionsByPrecedent() {
        Courtyard x = withLaw(0);
        judged(x, 0, 0, true);
        x.act(0, false, 0);
        x.enact(3, 1, true, -1);
        x.condition(1, 'h', 0);
        x.act(1, true, 0);
        int number = x.begin(1, 9, 1, 1, 0, 0);
        x.concede(number, 1);
        x.answer(number, 255, false);
        Check.same("22: a condition held by a precedent", x.judge(number), true);
        Check.same("31: the condition", x.rowBy(number, 0), 100);
        Check.same("31: the issue", x.rowBy(number, 1), 1);
        Check.same("45: sound", x.isSound(), true);
    }

    private static void overruling() {
        Courtyard x = withLaw(2);
        int low = judged(x, 0, 0, true);
        int same = judged(x, 1, 1, true);
        int high = judged(x, 2, 2, true);
        x.act(0, false, 0);
        x.enact(2, 0, false, -1);
        x.act(1, true, 0);
        int number = judged(x, 3, 1, true);
        Check.same("22: another outcome", x.outcome(number), false);
        Check.same("32: a lower court", x.isPrecedent(low), false);
        Check.same("32: the same court", x.isPrecedent(same), false);
        Check.same("32: a higher court", x.isPrecedent(high), true);
        Check.same("32: itself", x.isPrecedent(number), true);
        int equal = judged(x, 4, 2, true);
        Check.same("32: the same outcome stays", x.isPrecedent(number), true);
        Check.same("32: the highest one is overruled", x.isPrecedent(high), false);
        Check.same("26: an overruled outcome stays", x.outcome(high), true);
        Check.same("32: the new one", x.isPrecedent(equal), true);
    }

    private static void overrulingNeedsLikeness() {
        Courtyard x = withLaw(0);
        judged(x, 0, 0, true);
        judged(x, 1, 2, false);
        Check.same("32: the facts are not alike", x.isPrecedent(0), true);
        x.enact(2, 1, true, -1);
        x.act(1, true, 0);
        int other = x.begin(2, 9, 1, 1, 2, 0);
        x.concede(other, 1);
        x.answer(other, 255, false);
        x.judge(other);
        Check.same("32: another issue", x.isPrecedent(1), true);
    }

    private static void appeal() {
        Courtyard x = withLaw(0);
        Check.fails("23: case 0", INDEX, () -> x.appeal(0));
        Check.fails("24: case 0", INDEX, () -> x.decide(0));
        begun(x, 3, 0, true);
        Check.fails("23: not judged", NONE, () -> x.appeal(0));
        Check.fails("24: not judged", UNSUPPORTED, () -> x.decide(0));
        x.judge(0);
        Check.fails("24: not stayed", UNSUPPORTED, () -> x.decide(0));
        Check.same("23: the defendant lost", x.appeal(0), 9);
        Check.same("25: stayed", x.stateOf(0), 's');
        Check.fails("23: stayed", UNSUPPORTED, () -> x.appeal(0));
        Check.fails("22: stayed", UNSUPPORTED, () -> x.judge(0));
        Check.fails("38: stayed", UNSUPPORTED, () -> x.enforce(0));
        Check.same("27: still its court", x.court(0), 0);
        Check.same("32: still a precedent", x.isPrecedent(0), true);
        Check.same("26: still its outcome", x.outcome(0), true);
        x.advance(100);
        Check.same("25: stayed for long", x.stateOf(0), 's');
        Check.same("24: affirmed", x.decide(0), 'a');
        Check.same("27: the higher court", x.court(0), 1);
        Check.same("25: judged again", x.stateOf(0), 'j');
        Check.same("23: appealed again", x.appeal(0), 9);
        Check.same("24: affirmed again", x.decide(0), 'a');
        Check.same("25: final", x.stateOf(0), 'f');
        Check.fails("23: court 2", UNSUPPORTED, () -> x.appeal(0));
        judged(x, 4, 1, false);
        Check.same("23: the plaintiff lost", x.appeal(1), 4);
    }

    private static void appealTime() {
        Courtyard x = withLaw(0);
        judged(x, 0, 0, true);
        judged(x, 1, 0, true);
        judged(x, 2, 2, true);
        Check.fails("23: court 2", UNSUPPORTED, () -> x.appeal(2));
        x.advance(30);
        Check.same("23: the 30th day", x.appeal(0), 9);
        x.advance(1);
        Check.fails("23: the 31st day", UNSUPPORTED, () -> x.appeal(1));
        x.decide(0);
        x.advance(30);
        Check.same("23: 30 days from the new judgment", x.appeal(0), 9);
    }

    private static void decide() {
        Courtyard x = withLaw(0);
        judged(x, 0, 0, true);
        x.advance(3);
        x.appeal(0);
        x.act(0, false, 0);
        Check.same("24: reversed by the law as known now", x.decide(0), 'r');
        Check.same("26: new outcome", x.outcome(0), false);
        Check.same("31: by nothing", x.rowBy(0, 0), -1);
        Check.same("36: the debt is taken away", x.debt(0), 0);
        Check.same("23: the plaintiff lost", x.appeal(0), 0);
        x.act(0, true, 0);
        x.advance(4);
        Check.same("24: reversed again", x.decide(0), 'r');
        Check.same("36: a debt again", x.debt(0), 100);
        Check.same("31: by the section", x.rowBy(0, 0), 0);
        Check.same("45: sound", x.isSound(), true);
    }

    private static void decideBarred() {
        Courtyard x = withLaw(0);
        x.advance(1);
        x.setLimit(0, 0);
        int number = x.begin(0, 9, 0, 100, 0, 0);
        x.concede(number, 1);
        x.answer(number, 255, true);
        x.judge(number);
        x.setLimit(0, 100);
        Check.same("23: the plaintiff", x.appeal(number), 0);
        Check.same("24: barred comes out the same", x.decide(number), 'a');
        Check.same("28: still no rows", x.rows(number), 0);
        Check.same("32: still no precedent", x.isPrecedent(number), false);
        int other = begun(x, 1, 0, true);
        x.judge(other);
        x.setLimit(0, 0);
        x.appeal(other);
        Check.same("24: not barred then, not barred now", x.decide(other), 'a');
        Check.same("26: for the plaintiff", x.outcome(other), true);
    }

    private static void decidedPrecedent() {
        Courtyard x = withLaw(2);
        int first = judged(x, 0, 0, true);
        x.enact(2, 0, false, -1);
        x.condition(1, 'f', 1);
        x.act(1, true, 0);
        int second = judged(x, 1, 0, true);
        Check.same("32: overruled", x.isPrecedent(first), false);
        Check.same("22: the later section", x.outcome(second), false);
        x.appeal(second);
        x.act(1, false, 0);
        Check.same("24: reversed", x.decide(second), 'r');
        Check.same("32: what the old one overruled stays so", x.isPrecedent(first), false);
        x.appeal(first);
        x.decide(first);
        Check.same("32: the new judgment is a precedent", x.isPrecedent(first), true);
    }

    private static void decideByDefaultRecord() {
        Courtyard x = withLaw(0);
        x.begin(0, 9, 0, 100, 0, 0);
        x.advance(20);
        Check.same("22: by default", x.judge(0), true);
        x.appeal(0);
        Check.same("24: on the record as it is", x.decide(0), 'a');
        Check.same("19: the record stays", x.isFound(0, 8), true);
    }
}
