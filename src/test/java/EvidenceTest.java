/** Promises 10 and 13 to 19: privileges, standards, presumptions, evidence and what is found. */
public final class EvidenceTest {
    private static final Class<IllegalArgumentException> ARGUMENT = IllegalArgumentException.class;
    private static final Class<IndexOutOfBoundsException> INDEX = IndexOutOfBoundsException.class;
    private static final Class<UnsupportedOperationException> UNSUPPORTED = UnsupportedOperationException.class;
    private static final Class<IllegalStateException> STATE = IllegalStateException.class;

    public static void main(String[] args) {
        privileges();
        standards();
        presumptions();
        concessions();
        addEvidence();
        evidenceCount();
        admitted();
        weights();
        burdens();
        record();
        Check.end();
    }

    private static Courtyard withCase() {
        Courtyard x = new Courtyard();
        x.begin(3, 4, 0, 100, 0, 0);
        return x;
    }

    private static Courtyard withJudgedCase() {
        Courtyard x = withCase();
        x.answer(0, 255, false);
        x.judge(0);
        return x;
    }

    private static void privileges() {
        Courtyard x = new Courtyard();
        Check.fails("10: person -1", ARGUMENT, () -> x.setPrivilege(-1, 0, true));
        Check.fails("10: person 10", ARGUMENT, () -> x.setPrivilege(10, 0, true));
        Check.fails("10: towards -1", ARGUMENT, () -> x.setPrivilege(0, -1, true));
        Check.fails("10: towards 10", ARGUMENT, () -> x.setPrivilege(0, 10, true));
        Check.same("10: had none", x.setPrivilege(9, 0, true), false);
        Check.same("10: had one", x.setPrivilege(9, 0, true), true);
        Check.same("10: the other way is another one", x.setPrivilege(0, 9, true), false);
        Check.same("10: taken", x.setPrivilege(9, 0, false), true);
        Check.same("10: gone", x.setPrivilege(9, 0, false), false);
        Check.same("10: towards oneself", x.setPrivilege(5, 5, true), false);
    }

    private static void standards() {
        Courtyard x = withCase();
        Check.fails("13: case 1", INDEX, () -> x.setStandard(1, 16, 0));
        Check.fails("13: case -1", INDEX, () -> x.setStandard(-1, 0, 50));
        Check.fails("13: fact 16", ARGUMENT, () -> x.setStandard(0, 16, 50));
        Check.fails("13: fact -1", ARGUMENT, () -> x.setStandard(0, -1, 50));
        for (int standard : new int[] {0, 49, 51, 74, 76, 94, 96, 100, -50}) {
            Check.fails("13: standard " + standard, ARGUMENT, () -> x.setStandard(0, 0, standard));
        }
        Check.same("13: 50 at first", x.setStandard(0, 15, 95), 50);
        Check.same("13: 95 then", x.setStandard(0, 15, 75), 95);
        Check.same("13: 75 then", x.setStandard(0, 15, 50), 75);
        Check.same("13: each fact has its own", x.setStandard(0, 14, 95), 50);
        Courtyard y = withJudgedCase();
        Check.fails("13: judged", UNSUPPORTED, () -> y.setStandard(0, 0, 50));
        Check.fails("13: argument ahead of judged", ARGUMENT, () -> y.setStandard(0, 0, 51));
    }

    private static void presumptions() {
        Courtyard x = withCase();
        Check.fails("14: case 1", INDEX, () -> x.presume(1, 16, true));
        Check.fails("14: fact 16", ARGUMENT, () -> x.presume(0, 16, true));
        Check.fails("14: fact -1", ARGUMENT, () -> x.presume(0, -1, true));
        Check.same("14: was not", x.presume(0, 3, true), false);
        Check.same("14: was", x.presume(0, 3, true), true);
        Check.same("14: found without evidence", x.isFound(0, 3), true);
        Check.same("14: no longer", x.presume(0, 3, false), true);
        Check.same("14: not found then", x.isFound(0, 3), false);
        Check.same("14: other facts", x.presume(0, 4, false), false);
        Courtyard y = withJudgedCase();
        Check.fails("14: judged", UNSUPPORTED, () -> y.presume(0, 0, true));
        Check.fails("14: argument ahead of judged", ARGUMENT, () -> y.presume(0, 16, true));
    }

    private static void concessions() {
        Courtyard x = withCase();
        Check.fails("15: case 1", INDEX, () -> x.concede(1, 16));
        Check.fails("15: fact 16", ARGUMENT, () -> x.concede(0, 16));
        Check.fails("15: fact -1", ARGUMENT, () -> x.concede(0, -1));
        x.addEvidence(0, 2, false, 99, 0, -1);
        Check.same("15: was not", x.concede(0, 2), true);
        Check.same("15: was", x.concede(0, 2), false);
        Check.same("15: found against evidence", x.isFound(0, 2), true);
        x.presume(0, 2, true);
        Check.same("15: found when presumed too", x.isFound(0, 2), true);
        Check.same("15: others are not", x.isFound(0, 1), false);
        Courtyard y = withJudgedCase();
        Check.fails("15: judged", UNSUPPORTED, () -> y.concede(0, 0));
        Check.fails("15: argument ahead of judged", ARGUMENT, () -> y.concede(0, 16));
    }

    private static void addEvidence() {
        Courtyard x = withCase();
        Check.fails("16: case 1", INDEX, () -> x.addEvidence(1, 16, true, 0, 10, -1));
        Check.fails("16: evidence 0", INDEX, () -> x.addEvidence(0, 16, true, 0, 10, 0));
        Check.fails("16: evidence -2", INDEX, () -> x.addEvidence(0, 0, true, 1, 0, -2));
        Check.fails("16: fact 16", ARGUMENT, () -> x.addEvidence(0, 16, true, 1, 0, -1));
        Check.fails("16: fact -1", ARGUMENT, () -> x.addEvidence(0, -1, true, 1, 0, -1));
        Check.fails("16: weight 0", ARGUMENT, () -> x.addEvidence(0, 0, true, 0, 0, -1));
        Check.fails("16: weight 100", ARGUMENT, () -> x.addEvidence(0, 0, true, 100, 0, -1));
        Check.fails("16: person 10", ARGUMENT, () -> x.addEvidence(0, 0, true, 1, 10, -1));
        Check.fails("16: person -1", ARGUMENT, () -> x.addEvidence(0, 0, true, 1, -1, -1));
        Check.same("16: first", x.addEvidence(0, 0, true, 1, 0, -1), 0);
        Check.same("16: against, from one that is for", x.addEvidence(0, 0, false, 99, 9, 0), 1);
        Check.fails("16: other fact", UNSUPPORTED, () -> x.addEvidence(0, 1, true, 1, 0, 1));
        Check.fails("16: own number", INDEX, () -> x.addEvidence(0, 0, true, 1, 0, 2));
        x.begin(5, 6, 0, 1, 0, 0);
        Check.fails("16: of another case", INDEX, () -> x.addEvidence(1, 0, true, 1, 0, 0));
        Courtyard y = withJudgedCase();
        Check.fails("16: judged", UNSUPPORTED, () -> y.addEvidence(0, 0, true, 1, 0, -1));
        Check.fails("16: argument ahead of judged", ARGUMENT, () -> y.addEvidence(0, 0, true, 0, 0, -1));
    }

    private static void evidenceCount() {
        Courtyard x = withCase();
        for (int i = 0; i < 20; i++) {
            Check.same("16: number", x.addEvidence(0, 0, true, 1, 0, i - 1), i);
        }
        Check.fails("16: 20", STATE, () -> x.addEvidence(0, 0, true, 1, 0, -1));
        Check.fails("16: other fact ahead of 20", UNSUPPORTED, () -> x.addEvidence(0, 1, true, 1, 0, 0));
        Check.fails("17: evidence 20", INDEX, () -> x.isAdmitted(0, 20));
        Check.fails("17: evidence -1", INDEX, () -> x.isAdmitted(0, -1));
        Check.fails("17: case 1", INDEX, () -> x.isAdmitted(1, 0));
        Check.same("17: two steps", x.isAdmitted(0, 2), true);
        Check.same("17: three steps", x.isAdmitted(0, 3), false);
        Check.same("17: many steps", x.isAdmitted(0, 19), false);
    }

    private static void admitted() {
        Courtyard x = withCase();
        x.addEvidence(0, 0, true, 40, 7, -1);
        x.addEvidence(0, 0, false, 40, 8, 0);
        x.addEvidence(0, 0, true, 40, 9, 1);
        x.setPrivilege(7, 3, true);
        Check.same("17: what is for is used against the defendant", x.isAdmitted(0, 0), true);
        x.setPrivilege(8, 4, true);
        Check.same("17: what is against, against the plaintiff", x.isAdmitted(0, 1), true);
        x.setPrivilege(8, 3, true);
        Check.same("17: privileged", x.isAdmitted(0, 1), false);
        Check.same("17: from one that is not admitted", x.isAdmitted(0, 2), false);
        Check.same("17: the source stays", x.isAdmitted(0, 0), true);
        x.setPrivilege(8, 3, false);
        Check.same("17: as it is looked at", x.isAdmitted(0, 2), true);
        x.setPrivilege(7, 4, true);
        Check.same("17: two steps away from a privilege", x.isAdmitted(0, 2), false);
        x.answer(0, 255, false);
        x.judge(0);
        x.setPrivilege(7, 4, false);
        Check.same("17: also after the judgment", x.isAdmitted(0, 2), true);
    }

    private static void weights() {
        Courtyard x = withCase();
        Check.fails("18: case 1", INDEX, () -> x.joined(1, 16, true));
        Check.fails("18: fact 16", ARGUMENT, () -> x.joined(0, 16, true));
        Check.fails("18: fact -1", ARGUMENT, () -> x.joined(0, -1, false));
        Check.same("18: none", x.joined(0, 0, true), 0);
        x.addEvidence(0, 0, true, 33, 7, -1);
        Check.same("18: one", x.joined(0, 0, true), 33);
        x.addEvidence(0, 0, true, 33, 7, -1);
        Check.same("18: 67 loses 22.11, which is 23", x.joined(0, 0, true), 56);
        x.addEvidence(0, 0, true, 99, 7, 1);
        Check.same("18: 49 by one step, 44 loses 22", x.joined(0, 0, true), 78);
        x.addEvidence(0, 0, true, 1, 7, 0);
        Check.same("18: a weight of 1 is nothing by hearing", x.joined(0, 0, true), 78);
        x.addEvidence(0, 0, true, 7, 7, 3);
        Check.same("18: 7 is 1 after two steps", x.joined(0, 0, true), 79);
        Check.same("18: against", x.joined(0, 0, false), 0);
        x.addEvidence(0, 0, false, 20, 7, 0);
        Check.same("18: against by hearing", x.joined(0, 0, false), 10);
        Check.same("18: another fact", x.joined(0, 1, true), 0);
        x.addEvidence(0, 2, true, 99, 7, -1);
        x.addEvidence(0, 2, true, 99, 7, -1);
        Check.same("18: 99 leaves 1, which goes", x.joined(0, 2, true), 100);
    }

    private static void burdens() {
        Courtyard x = withCase();
        Check.fails("19: case 1", INDEX, () -> x.isFound(1, 16));
        Check.fails("19: fact 16", ARGUMENT, () -> x.isFound(0, 16));
        Check.fails("19: fact -1", ARGUMENT, () -> x.isFound(0, -1));
        x.addEvidence(0, 0, true, 49, 7, -1);
        Check.same("19: 49 of 50", x.isFound(0, 0), false);
        x.addEvidence(0, 1, true, 80, 7, -1);
        x.addEvidence(0, 1, false, 30, 7, -1);
        Check.same("19: 80 less 30", x.isFound(0, 1), true);
        x.addEvidence(0, 2, true, 80, 7, -1);
        x.addEvidence(0, 2, false, 31, 7, -1);
        Check.same("19: 80 less 31", x.isFound(0, 2), false);
        x.presume(0, 3, true);
        x.addEvidence(0, 3, false, 80, 7, -1);
        x.addEvidence(0, 3, true, 31, 7, -1);
        Check.same("19: presumed, 49 against", x.isFound(0, 3), true);
        x.presume(0, 4, true);
        x.addEvidence(0, 4, false, 80, 7, -1);
        x.addEvidence(0, 4, true, 30, 7, -1);
        Check.same("19: presumed, 50 against", x.isFound(0, 4), false);
        x.setStandard(0, 4, 75);
        Check.same("19: presumed, a higher standard", x.isFound(0, 4), true);
        x.setStandard(0, 1, 75);
        Check.same("19: a higher standard", x.isFound(0, 1), false);
        x.addEvidence(0, 5, true, 95, 7, -1);
        x.setStandard(0, 5, 95);
        Check.same("19: 95 of 95", x.isFound(0, 5), true);
    }

    private static void record() {
        Courtyard x = withCase();
        x.addEvidence(0, 0, true, 60, 7, -1);
        x.answer(0, 255, false);
        x.judge(0);
        x.setPrivilege(7, 4, true);
        Check.same("19: by the record", x.isFound(0, 0), true);
        Check.same("18: as it is looked at", x.joined(0, 0, true), 0);
        Courtyard y = withCase();
        y.presume(0, 1, true);
        y.presume(0, 2, true);
        y.addEvidence(0, 2, false, 60, 7, -1);
        y.advance(20);
        Check.same("19: without a default", y.isFound(0, 0), false);
        y.judge(0);
        Check.same("19: by default", y.isFound(0, 0), true);
        Check.same("19: presumed", y.isFound(0, 1), true);
        Check.same("19: a burden that was met stays met", y.isFound(0, 2), false);
    }
}
