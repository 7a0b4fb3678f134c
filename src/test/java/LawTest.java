/** Promises 1 to 7: days, sections, conditions and acts. */
public final class LawTest {
    private static final Class<IllegalArgumentException> ARGUMENT = IllegalArgumentException.class;
    private static final Class<IndexOutOfBoundsException> INDEX = IndexOutOfBoundsException.class;
    private static final Class<UnsupportedOperationException> UNSUPPORTED = UnsupportedOperationException.class;
    private static final Class<IllegalStateException> STATE = IllegalStateException.class;

    public static void main(String[] args) {
        newObject();
        advance();
        enact();
        condition();
        conditionOrder();
        act();
        inForce();
        Check.end();
    }

    private static void newObject() {
        Courtyard x = new Courtyard();
        Check.same("1: day", x.day(), 0);
        Check.same("1: sections", x.sections(), 0);
        Check.same("1: cases", x.cases(), 0);
        Check.same("1: wealth", x.wealth(), 0);
        for (int person = 0; person < 10; person++) {
            Check.same("1: assets", x.assets(person), 0);
        }
        for (int issue = 0; issue < 8; issue++) {
            Check.same("1: limit", x.setLimit(issue, 0), 100);
        }
    }

    private static void advance() {
        Courtyard x = new Courtyard();
        Check.same("2: one day", x.advance(1), 1);
        Check.same("2: hundred days", x.advance(100), 101);
        Check.same("3: day", x.day(), 101);
        for (int days : new int[] {0, -1, 101, Integer.MIN_VALUE, Integer.MAX_VALUE}) {
            Check.fails("2: advance " + days, ARGUMENT, () -> x.advance(days));
        }
        Check.same("3: day is unchanged", x.day(), 101);
    }

    private static void enact() {
        Courtyard x = new Courtyard();
        Check.fails("4: rank -1", ARGUMENT, () -> x.enact(-1, 0, true, -1));
        Check.fails("4: rank 4", ARGUMENT, () -> x.enact(4, 0, true, -1));
        Check.fails("4: issue -1", ARGUMENT, () -> x.enact(0, -1, true, -1));
        Check.fails("4: issue 8 ahead of section", ARGUMENT, () -> x.enact(0, 8, true, 9));
        Check.fails("4: no section 0", INDEX, () -> x.enact(0, 0, true, 0));
        Check.fails("4: section -2", INDEX, () -> x.enact(0, 0, true, -2));
        Check.same("4: first", x.enact(3, 7, true, -1), 0);
        Check.same("4: exception", x.enact(0, 7, false, 0), 1);
        Check.fails("4: other issue", UNSUPPORTED, () -> x.enact(0, 6, true, 1));
        Check.fails("4: section 2", INDEX, () -> x.enact(0, 7, true, 2));
        Check.same("40: two sections", x.sections(), 2);
        for (int i = 2; i < 24; i++) {
            Check.same("4: number", x.enact(1, i % 8, true, -1), i);
        }
        Check.fails("4: 24 sections", STATE, () -> x.enact(0, 0, true, -1));
        Check.fails("4: issue ahead of count", UNSUPPORTED, () -> x.enact(0, 6, true, 0));
        Check.fails("4: index ahead of count", INDEX, () -> x.enact(0, 6, true, 24));
        Check.same("40: 24 sections", x.sections(), 24);
        Check.same("4: enacted is not in force", x.isInForce(0, 0, 0), false);
    }

    private static void condition() {
        Courtyard x = new Courtyard();
        x.enact(0, 1, true, -1);
        Check.fails("5: section 1", INDEX, () -> x.condition(1, 'z', 0));
        Check.fails("5: section -1", INDEX, () -> x.condition(-1, 'f', 0));
        for (char kind : new char[] {'z', 'F', 'a', 0, 65535}) {
            Check.fails("5: kind " + (int) kind, ARGUMENT, () -> x.condition(0, kind, 0));
        }
        Check.fails("5: fact 16", ARGUMENT, () -> x.condition(0, 'f', 16));
        Check.fails("5: fact -1", ARGUMENT, () -> x.condition(0, 'n', -1));
        Check.fails("5: issue 8", ARGUMENT, () -> x.condition(0, 'h', 8));
        Check.fails("5: issue -1", ARGUMENT, () -> x.condition(0, 'x', -1));
        Check.fails("5: own issue", UNSUPPORTED, () -> x.condition(0, 'h', 1));
        Check.fails("5: higher issue", UNSUPPORTED, () -> x.condition(0, 'x', 7));
        Check.same("5: fact 15", x.condition(0, 'f', 15), 1);
        Check.same("5: the same again", x.condition(0, 'f', 15), 2);
        Check.same("5: lower issue", x.condition(0, 'h', 0), 3);
        Check.same("5: not", x.condition(0, 'x', 0), 4);
        Check.fails("5: four", STATE, () -> x.condition(0, 'n', 0));
        Check.fails("5: issue ahead of four", UNSUPPORTED, () -> x.condition(0, 'x', 2));
    }

    private static void conditionOrder() {
        Courtyard x = new Courtyard();
        x.enact(0, 3, true, -1);
        x.act(0, false, 0);
        Check.same("5: a repeal alone does not close it", x.condition(0, 'n', 3), 1);
        x.act(0, true, 9999);
        Check.fails("5: put in force, later", UNSUPPORTED, () -> x.condition(0, 'n', 3));
        Check.fails("5: argument first", ARGUMENT, () -> x.condition(0, 'n', 16));
        x.act(0, false, 0);
        Check.fails("5: was put in force once", UNSUPPORTED, () -> x.condition(0, 'n', 3));
    }

    private static void act() {
        Courtyard x = new Courtyard();
        Check.fails("6: section 0", INDEX, () -> x.act(0, true, -1));
        x.enact(0, 0, true, -1);
        Check.fails("6: section -1", INDEX, () -> x.act(-1, true, 0));
        Check.fails("6: day -1", ARGUMENT, () -> x.act(0, true, -1));
        Check.fails("6: day 10000", ARGUMENT, () -> x.act(0, true, 10000));
        Check.same("6: first", x.act(0, true, 9999), 1);
        for (int i = 2; i <= 8; i++) {
            Check.same("6: acts", x.act(0, i % 2 == 0, 0), i);
        }
        Check.fails("6: eight", STATE, () -> x.act(0, true, 0));
        Check.fails("6: day ahead of eight", ARGUMENT, () -> x.act(0, true, 10000));
        Check.same("6: the eighth counts", x.isInForce(0, 0, 0), true);
        x.enact(0, 0, true, -1);
        Check.same("6: each section has its own", x.act(1, true, 0), 1);
    }

    private static void inForce() {
        Courtyard x = new Courtyard();
        Check.fails("7: section ahead of days", INDEX, () -> x.isInForce(0, -1, -1));
        x.enact(0, 0, true, -1);
        Check.fails("7: day -1", ARGUMENT, () -> x.isInForce(0, -1, 0));
        Check.fails("7: known -1", ARGUMENT, () -> x.isInForce(0, 0, -1));
        x.advance(10);
        x.act(0, true, 20);
        Check.same("7: ahead of its effect", x.isInForce(0, 19, 10), false);
        Check.same("7: from its effect", x.isInForce(0, 20, 10), true);
        Check.same("7: not known yet", x.isInForce(0, 20, 9), false);
        Check.same("7: far away", x.isInForce(0, Integer.MAX_VALUE, Integer.MAX_VALUE), true);
        x.advance(10);
        x.act(0, false, 5);
        Check.same("7: repealed backwards", x.isInForce(0, 20, 20), false);
        Check.same("7: as it was known", x.isInForce(0, 20, 19), true);
        x.act(0, true, 15);
        Check.same("7: revived on the same day", x.isInForce(0, 15, 20), true);
        Check.same("7: revived from 15 alone", x.isInForce(0, 14, 20), false);
        x.act(0, false, 30);
        Check.same("7: last act has effect later", x.isInForce(0, 29, 20), true);
        Check.same("7: repealed from 30", x.isInForce(0, 30, 20), false);
        Check.same("7: 30 as known ahead", x.isInForce(0, 30, 19), true);
    }
}
