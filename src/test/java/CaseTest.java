/** Promises 8, 9, 11, 12, 20, 21, 25 and 41: limits, spans, cases and answers. */
public final class CaseTest {
    private static final Class<IllegalArgumentException> ARGUMENT = IllegalArgumentException.class;
    private static final Class<IndexOutOfBoundsException> INDEX = IndexOutOfBoundsException.class;
    private static final Class<UnsupportedOperationException> UNSUPPORTED = UnsupportedOperationException.class;
    private static final Class<IllegalStateException> STATE = IllegalStateException.class;

    public static void main(String[] args) {
        limits();
        tolls();
        begin();
        caseCount();
        answer();
        elapsed();
        late();
        states();
        Check.end();
    }

    private static void limits() {
        Courtyard x = new Courtyard();
        Check.fails("8: issue 8", ARGUMENT, () -> x.setLimit(8, 0));
        Check.fails("8: issue -1", ARGUMENT, () -> x.setLimit(-1, 0));
        Check.fails("8: limit 1000", ARGUMENT, () -> x.setLimit(0, 1000));
        Check.fails("8: limit -1", ARGUMENT, () -> x.setLimit(0, -1));
        Check.same("8: 100 at first", x.setLimit(7, 999), 100);
        Check.same("8: the one before", x.setLimit(7, 0), 999);
        Check.same("8: nothing is a limit", x.setLimit(7, 5), 0);
        Check.same("8: another issue", x.setLimit(6, 5), 100);
    }

    private static void tolls() {
        Courtyard x = new Courtyard();
        Check.fails("9: same", ARGUMENT, () -> x.toll(1, 1, 0, 0));
        Check.fails("9: person 10", ARGUMENT, () -> x.toll(10, 1, 0, 0));
        Check.fails("9: person -1", ARGUMENT, () -> x.toll(1, -1, 0, 0));
        Check.fails("9: day -1", ARGUMENT, () -> x.toll(1, 2, -1, 0));
        Check.fails("9: day 10000", ARGUMENT, () -> x.toll(1, 2, 10000, 10000));
        Check.fails("9: to 10000", ARGUMENT, () -> x.toll(1, 2, 0, 10000));
        Check.fails("9: backwards", ARGUMENT, () -> x.toll(1, 2, 5, 4));
        for (int i = 1; i <= 12; i++) {
            Check.same("9: spans", x.toll(0, i % 9 + 1, 9999, 9999), i);
        }
        Check.fails("9: 12 spans", STATE, () -> x.toll(1, 2, 0, 0));
        Check.fails("9: argument ahead of 12", ARGUMENT, () -> x.toll(1, 1, 0, 0));
    }

    private static void begin() {
        Courtyard x = new Courtyard();
        x.advance(5);
        Check.fails("11: plaintiff 10", ARGUMENT, () -> x.begin(10, 1, 0, 1, 0, 0));
        Check.fails("11: plaintiff -1", ARGUMENT, () -> x.begin(-1, 1, 0, 1, 0, 0));
        Check.fails("11: defendant 10", ARGUMENT, () -> x.begin(0, 10, 0, 1, 0, 0));
        Check.fails("11: defendant -1", ARGUMENT, () -> x.begin(0, -1, 0, 1, 0, 0));
        Check.fails("11: same", ARGUMENT, () -> x.begin(2, 2, 0, 1, 0, 0));
        Check.fails("11: issue 8", ARGUMENT, () -> x.begin(0, 1, 8, 1, 0, 0));
        Check.fails("11: issue -1", ARGUMENT, () -> x.begin(0, 1, -1, 1, 0, 0));
        Check.fails("11: amount 0", ARGUMENT, () -> x.begin(0, 1, 0, 0, 0, 0));
        Check.fails("11: amount 100000", ARGUMENT, () -> x.begin(0, 1, 0, 100000, 0, 0));
        Check.fails("11: court 3", ARGUMENT, () -> x.begin(0, 1, 0, 1, 3, 0));
        Check.fails("11: court -1", ARGUMENT, () -> x.begin(0, 1, 0, 1, -1, 0));
        Check.fails("11: event -1", ARGUMENT, () -> x.begin(0, 1, 0, 1, 0, -1));
        Check.fails("11: event tomorrow", ARGUMENT, () -> x.begin(0, 1, 0, 1, 0, 6));
        Check.same("11: none was begun", x.cases(), 0);
        Check.same("11: event today", x.begin(0, 1, 7, 99999, 2, 5), 0);
        Check.fails("11: barred", UNSUPPORTED, () -> x.begin(0, 1, 7, 1, 0, 5));
        Check.fails("11: barred the other way", UNSUPPORTED, () -> x.begin(1, 0, 7, 1, 0, 5));
        Check.fails("11: argument ahead of barred", ARGUMENT, () -> x.begin(1, 0, 7, 0, 0, 5));
        Check.same("11: another event", x.begin(0, 1, 7, 1, 0, 4), 1);
        Check.same("11: another issue", x.begin(0, 1, 6, 1, 0, 5), 2);
        Check.same("11: another person", x.begin(0, 2, 7, 1, 0, 5), 3);
        Check.same("27: court", x.court(0), 2);
        Check.same("41: cases", x.cases(), 4);
    }

    private static void caseCount() {
        Courtyard x = new Courtyard();
        for (int i = 0; i < 16; i++) {
            Check.same("11: number", x.begin(i / 8, 9, i % 8, 1, 0, 0), i);
        }
        Check.fails("11: 16 cases", STATE, () -> x.begin(2, 9, 0, 1, 0, 0));
        Check.fails("11: barred ahead of 16", UNSUPPORTED, () -> x.begin(9, 1, 0, 1, 0, 0));
        Check.same("41: cases", x.cases(), 16);
    }

    private static void answer() {
        Courtyard x = new Courtyard();
        x.begin(0, 1, 0, 1, 0, 0);
        x.begin(0, 1, 1, 1, 0, 0);
        x.begin(0, 1, 2, 1, 0, 0);
        Check.fails("12: case 3", INDEX, () -> x.answer(3, 256, true));
        Check.fails("12: case -1", INDEX, () -> x.answer(-1, 0, true));
        Check.fails("12: sum 256", ARGUMENT, () -> x.answer(0, 256, true));
        Check.fails("12: sum -1", ARGUMENT, () -> x.answer(0, -1, true));
        Check.same("12: all joined", x.answer(0, 255, true), 0);
        Check.same("12: none joined", x.answer(1, 0, false), 8);
        Check.fails("12: answered", UNSUPPORTED, () -> x.answer(0, 0, true));
        Check.fails("12: sum ahead of answered", ARGUMENT, () -> x.answer(0, 256, true));
        x.advance(20);
        x.begin(0, 1, 3, 1, 0, 0);
        x.judge(2);
        Check.fails("12: judged", UNSUPPORTED, () -> x.answer(2, 0, true));
        Check.same("12: three joined", x.answer(3, 7, false), 5);
    }

    private static void elapsed() {
        Courtyard x = new Courtyard();
        Check.fails("20: case 0", INDEX, () -> x.elapsed(0));
        x.advance(50);
        x.begin(0, 1, 0, 1, 0, 50);
        x.begin(0, 1, 0, 1, 0, 49);
        x.begin(1, 0, 0, 1, 0, 10);
        x.begin(1, 2, 0, 1, 0, 10);
        Check.fails("20: case -1", INDEX, () -> x.elapsed(-1));
        Check.same("20: event today", x.elapsed(0), 0);
        Check.same("20: event yesterday", x.elapsed(1), 1);
        Check.same("20: from 10 to 49", x.elapsed(2), 40);
        x.toll(0, 1, 20, 29);
        Check.same("20: ten tolled", x.elapsed(2), 30);
        Check.same("20: of other persons", x.elapsed(3), 40);
        x.toll(1, 0, 25, 34);
        Check.same("20: each day once", x.elapsed(2), 25);
        x.toll(0, 1, 22, 23);
        Check.same("20: a span in a span", x.elapsed(2), 25);
        x.toll(0, 1, 5, 10);
        Check.same("20: the event tolled", x.elapsed(2), 24);
        x.toll(0, 1, 49, 60);
        Check.same("20: the last day tolled", x.elapsed(2), 23);
        Check.same("20: all tolled", x.elapsed(1), 0);
        x.toll(0, 1, 50, 9999);
        x.toll(0, 1, 0, 9);
        Check.same("20: spans outside", x.elapsed(2), 23);
        for (int i = 0; i < 5; i++) {
            x.toll(1, 0, 36 + 2 * i, 36 + 2 * i);
        }
        Check.same("20: twelve spans", x.elapsed(2), 18);
        x.advance(100);
        Check.same("20: up to the beginning", x.elapsed(2), 18);
        Check.same("20: other persons still", x.elapsed(3), 40);
        Courtyard y = new Courtyard();
        y.advance(50);
        y.begin(0, 1, 0, 1, 0, 0);
        for (int i = 0; i < 12; i++) {
            y.toll(0, 1, 46 - 4 * i, 46 - 4 * i);
        }
        Check.same("20: twelve spans, each alone", y.elapsed(0), 38);
    }

    private static void late() {
        Courtyard x = new Courtyard();
        Check.fails("21: case 0", INDEX, () -> x.isLate(0));
        x.advance(100);
        x.begin(0, 1, 2, 1, 0, 0);
        Check.same("21: 100 of 100", x.isLate(0), false);
        x.advance(1);
        x.begin(0, 2, 2, 1, 0, 0);
        Check.same("21: 101 of 100", x.isLate(1), true);
        Check.same("21: as of its beginning", x.isLate(0), false);
        x.setLimit(2, 99);
        Check.same("21: a lower limit", x.isLate(0), true);
        x.setLimit(3, 99);
        x.setLimit(2, 101);
        Check.same("21: of its issue", x.isLate(1), false);
        x.setLimit(2, 0);
        x.begin(0, 3, 2, 1, 0, 101);
        Check.same("21: 0 of 0", x.isLate(2), false);
    }

    private static void states() {
        Courtyard x = new Courtyard();
        Check.fails("25: case 0", INDEX, () -> x.stateOf(0));
        Check.fails("27: case 0", INDEX, () -> x.court(0));
        x.begin(0, 1, 2, 1, 0, 0);
        x.begin(0, 1, 3, 1, 2, 0);
        Check.same("25: begun", x.stateOf(0), 'b');
        x.answer(0, 255, false);
        x.answer(1, 255, false);
        Check.same("25: answered", x.stateOf(0), 'a');
        x.judge(0);
        x.judge(1);
        Check.same("25: judged", x.stateOf(0), 'j');
        Check.same("25: court 2 is final", x.stateOf(1), 'f');
        x.advance(30);
        Check.same("25: the 30th day", x.stateOf(0), 'j');
        x.advance(1);
        Check.same("25: the 31st day", x.stateOf(0), 'f');
    }
}
