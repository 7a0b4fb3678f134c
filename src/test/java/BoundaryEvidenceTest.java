/** The sentences on evidence and facts that name a boundary, each with a test of its own. */
public final class BoundaryEvidenceTest {
    public static void main(String[] args) {
        weights();
        tellingEvidence();
        evidenceCount();
        stepsFromFirstHand();
        privilegesByUse();
        privilegesOfAll();
        fromOneThatIsNotAdmitted();
        halvedForEachStep();
        roundedUp();
        whatIsGone();
        inTheOrderOfEvidence();
        standards();
        burdenOnThePlaintiff();
        burdenOnTheDefendant();
        conceded();
        notConcededBefore();
        byTheRecord();
        Check.end();
    }

    private static void weights() {
        Check.sentence("with a weight from 1 to 99, by a person");
        Courtyard x = Setup.withCase(0);
        x.addEvidence(0, 0, true, 1, 0, -1);
        Check.same("18: a weight of 1", x.joined(0, 0, true), 1);
        x.addEvidence(0, 1, false, 99, 9, -1);
        Check.same("18: a weight of 99", x.joined(0, 1, false), 99);
        Check.fails("16: a weight of 0", Check.ARGUMENT, () -> x.addEvidence(0, 0, true, 0, 0, -1));
        Check.fails("16: a weight of 100", Check.ARGUMENT, () -> x.addEvidence(0, 0, true, 100, 0, -1));
        Check.fails("16: a weight of -99", Check.ARGUMENT, () -> x.addEvidence(0, 0, true, -99, 0, -1));
        Check.fails("16: person 10", Check.ARGUMENT, () -> x.addEvidence(0, 0, true, 1, 10, -1));
        Check.fails("16: person -1", Check.ARGUMENT, () -> x.addEvidence(0, 0, true, 1, -1, -1));
        Check.same("16: the next number", x.addEvidence(0, 0, true, 1, 0, -1), 2);
    }

    private static void tellingEvidence() {
        Check.sentence("at first hand, or from hearing, told by another evidence of the case on the same fact");
        Courtyard x = Setup.withCase(0);
        x.begin(2, 3, 0, 1, 0, 0);
        Check.fails("16: the first can't be told by itself", Check.INDEX, () -> x.addEvidence(0, 0, true, 1, 0, 0));
        x.addEvidence(0, 0, true, 50, 5, -1);
        Check.fails("16: of another case", Check.INDEX, () -> x.addEvidence(1, 0, true, 1, 0, 0));
        Check.fails("16: on another fact", Check.UNSUPPORTED, () -> x.addEvidence(0, 1, true, 1, 0, 0));
        Check.same("16: by the one ahead", x.addEvidence(0, 0, true, 50, 5, 0), 1);
        Check.fails("16: by itself", Check.INDEX, () -> x.addEvidence(0, 0, true, 1, 0, 2));
        Check.same("16: by the last one", x.addEvidence(0, 0, true, 50, 5, 1), 2);
        Check.fails("16: -2 is not first hand", Check.INDEX, () -> x.addEvidence(0, 0, true, 1, 0, -2));
        Check.same("16: against, told by one that is for", x.addEvidence(0, 0, false, 50, 5, 0), 3);
    }

    private static void evidenceCount() {
        Check.sentence("Throws `IllegalStateException` if there are 20 in the case");
        Courtyard x = Setup.withCase(0);
        x.begin(2, 3, 0, 1, 0, 0);
        for (int i = 0; i < 20; i++) {
            Check.same("16: number", x.addEvidence(0, i == 19 ? 15 : 0, true, 50, 5, -1), i);
        }
        Check.same("18: the 20th counts", x.joined(0, 15, true), 50);
        Check.same("17: the 20th is admitted", x.isAdmitted(0, 19), true);
        Check.fails("16: a 21st", Check.STATE, () -> x.addEvidence(0, 15, true, 50, 5, -1));
        Check.fails("16: a 21st from hearing", Check.STATE, () -> x.addEvidence(0, 15, true, 50, 5, 19));
        Check.fails("17: no 21st", Check.INDEX, () -> x.isAdmitted(0, 20));
        Check.same("18: the 21st does not count", x.joined(0, 15, true), 50);
        Check.same("16: another case", x.addEvidence(1, 0, true, 50, 5, -1), 0);
    }

    private static void stepsFromFirstHand() {
        Check.sentence("or it is more than 2 steps away from first hand");
        Courtyard x = Setup.withCase(0);
        for (int i = 0; i < 20; i++) {
            x.addEvidence(0, 0, true, 80, 5, i - 1);
            Check.same("17: " + i + " steps away", x.isAdmitted(0, i), i <= 2);
        }
        Check.same("18: 80, 40 and 20, no more", x.joined(0, 0, true), 100 - (20 - 8 - 3));
    }

    private static void privilegesByUse() {
        Check.sentence("What is for a fact is used against the defendant, what is against it, against the plaintiff.");
        Courtyard x = Setup.withCase(0);
        x.addEvidence(0, 0, true, 50, 5, -1);
        x.addEvidence(0, 0, false, 50, 5, -1);
        x.setPrivilege(5, 1, true);
        Check.same("17: for, with a privilege towards the defendant", x.isAdmitted(0, 0), false);
        Check.same("17: against, with that one", x.isAdmitted(0, 1), true);
        x.setPrivilege(5, 1, false);
        x.setPrivilege(5, 0, true);
        Check.same("17: for, with a privilege towards the plaintiff", x.isAdmitted(0, 0), true);
        Check.same("17: against, with that one", x.isAdmitted(0, 1), false);
        x.setPrivilege(5, 0, false);
        x.setPrivilege(0, 5, true);
        x.setPrivilege(1, 5, true);
        Check.same("17: for, the other way round", x.isAdmitted(0, 0), true);
        Check.same("17: against, the other way round", x.isAdmitted(0, 1), true);
    }

    private static void privilegesOfAll() {
        Check.sentence("unless its person has a privilege towards the one against whom it is used");
        for (int person = 0; person < 10; person++) {
            for (int towards = 0; towards < 10; towards++) {
                Courtyard x = new Courtyard();
                int plaintiff = towards == 0 ? 1 : 0;
                x.begin(plaintiff, towards, 0, 1, 0, 0);
                x.addEvidence(0, 15, true, 60, person, -1);
                Check.same("10: none at first", x.setPrivilege(person, towards, true), false);
                Check.same("17: person " + person + " towards " + towards, x.isAdmitted(0, 0), false);
                Check.same("19: not found", x.isFound(0, 15), false);
                Check.same("10: taken", x.setPrivilege(person, towards, false), true);
                Check.same("17: without it", x.isAdmitted(0, 0), true);
                Check.same("10: none any more", x.setPrivilege(person, towards, false), false);
            }
        }
    }

    private static void fromOneThatIsNotAdmitted() {
        Check.sentence("or it comes from one that is not admitted");
        Courtyard x = Setup.withCase(0);
        x.addEvidence(0, 0, false, 90, 5, -1);
        x.addEvidence(0, 0, true, 90, 6, 0);
        x.addEvidence(0, 0, true, 90, 7, 1);
        x.setPrivilege(5, 1, true);
        Check.same("17: two steps, no privilege that counts", x.isAdmitted(0, 2), true);
        x.setPrivilege(5, 0, true);
        Check.same("17: one step from it", x.isAdmitted(0, 1), false);
        Check.same("17: two steps from it", x.isAdmitted(0, 2), false);
        x.setPrivilege(5, 0, false);
        x.setPrivilege(6, 1, true);
        Check.same("17: ahead of it", x.isAdmitted(0, 0), true);
        Check.same("17: behind it", x.isAdmitted(0, 2), false);
    }

    private static void halvedForEachStep() {
        Check.sentence("It counts by its weight, halved for each step, rounded down.");
        int[] weights = {1, 2, 3, 4, 7, 8, 98, 99};
        int[] once = {0, 1, 1, 2, 3, 4, 49, 49};
        int[] twice = {0, 0, 0, 1, 1, 2, 24, 24};
        for (int i = 0; i < weights.length; i++) {
            Courtyard x = Setup.withCase(0);
            x.addEvidence(0, 0, false, 1, 5, -1);
            x.addEvidence(0, 0, true, weights[i], 5, 0);
            Check.same("18: " + weights[i] + " by one step", x.joined(0, 0, true), once[i]);
            Courtyard y = Setup.withCase(0);
            y.addEvidence(0, 0, false, 1, 5, -1);
            y.addEvidence(0, 0, false, 1, 5, 0);
            y.addEvidence(0, 0, true, weights[i], 5, 1);
            Check.same("18: " + weights[i] + " by two steps", y.joined(0, 0, true), twice[i]);
        }
    }

    private static void roundedUp() {
        Check.sentence("each one takes away its part of 100 of what is left, rounded up");
        Courtyard x = Setup.withCase(0);
        x.addEvidence(0, 0, true, 33, 5, -1);
        x.addEvidence(0, 0, true, 3, 5, -1);
        Check.same("18: 2.01 of 67 is 3", x.joined(0, 0, true), 36);
        x.addEvidence(0, 1, true, 50, 5, -1);
        x.addEvidence(0, 1, true, 50, 5, -1);
        Check.same("18: 25 of 50 is 25", x.joined(0, 1, true), 75);
        x.addEvidence(0, 2, true, 1, 5, -1);
        x.addEvidence(0, 2, true, 1, 5, -1);
        Check.same("18: 0.99 of 99 is 1", x.joined(0, 2, true), 2);
        x.addEvidence(0, 3, true, 99, 5, -1);
        x.addEvidence(0, 3, true, 1, 5, -1);
        Check.same("18: 0.01 of 1 is 1", x.joined(0, 3, true), 100);
    }

    private static void whatIsGone() {
        Check.sentence("the joined weight is what is gone");
        Courtyard x = Setup.withCase(0);
        Check.same("18: without evidence", x.joined(0, 0, true), 0);
        Check.same("18: without evidence against", x.joined(0, 0, false), 0);
        for (int i = 0; i < 20; i++) {
            x.addEvidence(0, 0, true, 99, 5, -1);
            Check.same("18: never more than 100", x.joined(0, 0, true), i == 0 ? 99 : 100);
        }
        Check.same("18: nothing against", x.joined(0, 0, false), 0);
        x.setPrivilege(5, 1, true);
        Check.same("18: none of 20 is admitted", x.joined(0, 0, true), 0);
    }

    private static void inTheOrderOfEvidence() {
        Check.sentence("Weights are joined in the order of evidence");
        Courtyard x = Setup.withCase(0);
        x.addEvidence(0, 0, true, 10, 5, -1);
        x.addEvidence(0, 0, true, 1, 5, -1);
        x.addEvidence(0, 0, true, 55, 5, -1);
        Check.same("18: 90, 89 and 49 are less", x.joined(0, 0, true), 100 - 40);
        x.addEvidence(0, 1, true, 55, 5, -1);
        x.addEvidence(0, 1, true, 10, 5, -1);
        x.addEvidence(0, 1, true, 1, 5, -1);
        Check.same("18: 45, 40 and 39 are left", x.joined(0, 1, true), 100 - 39);
    }

    private static void standards() {
        Check.sentence("A fact in a case has the standard 50, 75 or 95, 50 at first.");
        Courtyard x = Setup.withCase(0);
        for (int fact = 0; fact < 16; fact++) {
            Check.same("13: at first, fact " + fact, x.setStandard(0, fact, 95), 50);
        }
        Check.same("13: 95 before", x.setStandard(0, 0, 75), 95);
        Check.same("13: 75 before", x.setStandard(0, 0, 50), 75);
        Check.same("13: 50 before", x.setStandard(0, 0, 50), 50);
        for (int near : new int[] {49, 51, 74, 76, 94, 96, 0, -1, 100, Integer.MIN_VALUE, Integer.MAX_VALUE}) {
            Check.fails("13: standard " + near, Check.ARGUMENT, () -> x.setStandard(0, 0, near));
        }
        x.begin(2, 3, 0, 1, 0, 0);
        Check.same("13: of another case", x.setStandard(1, 0, 50), 50);
    }

    private static void burdenOnThePlaintiff() {
        Check.sentence("it is found if the joined weight for it less that against it is not less than its standard");
        for (int standard : new int[] {50, 75, 95}) {
            for (int weight = standard - 1; weight <= standard + 1; weight++) {
                Courtyard x = Setup.withCase(0);
                x.setStandard(0, 0, standard);
                x.addEvidence(0, 0, true, weight, 5, -1);
                Check.same("19: " + weight + " for, of " + standard, x.isFound(0, 0), weight >= standard);
                x.addEvidence(0, 0, false, 1, 5, -1);
                Check.same("19: " + weight + " less 1", x.isFound(0, 0), weight - 1 >= standard);
            }
        }
        Courtyard y = Setup.withCase(0);
        Check.same("19: nothing for, nothing against", y.isFound(0, 0), false);
        y.addEvidence(0, 0, false, 99, 5, -1);
        Check.same("19: only against", y.isFound(0, 0), false);
    }

    private static void burdenOnTheDefendant() {
        Check.sentence("it is found unless that against it less that for it is not less than its standard");
        for (int standard : new int[] {50, 75, 95}) {
            for (int weight = standard - 1; weight <= standard + 1; weight++) {
                Courtyard x = Setup.withCase(0);
                x.presume(0, 0, true);
                x.setStandard(0, 0, standard);
                x.addEvidence(0, 0, false, weight, 5, -1);
                Check.same("19: " + weight + " against, of " + standard, x.isFound(0, 0), weight < standard);
                x.addEvidence(0, 0, true, 1, 5, -1);
                Check.same("19: " + weight + " less 1", x.isFound(0, 0), weight - 1 < standard);
            }
        }
        Courtyard y = Setup.withCase(0);
        y.presume(0, 0, true);
        Check.same("19: nothing for, nothing against", y.isFound(0, 0), true);
        y.addEvidence(0, 0, true, 99, 5, -1);
        Check.same("19: only for", y.isFound(0, 0), true);
        Check.same("14: other facts are not presumed", y.presume(0, 15, false), false);
    }

    private static void conceded() {
        Check.sentence("A fact that was conceded is found in any case.");
        for (int fact = 0; fact < 16; fact++) {
            Courtyard x = Setup.withCase(0);
            x.setStandard(0, fact, 95);
            x.addEvidence(0, fact, false, 99, 5, -1);
            x.concede(0, fact);
            for (int other = 0; other < 16; other++) {
                Check.same("19: conceded " + fact + ", asked " + other, x.isFound(0, other), other == fact);
            }
            x.presume(0, fact, true);
            Check.same("19: presumed too", x.isFound(0, fact), true);
        }
    }

    private static void notConcededBefore() {
        Check.sentence("Returns whether it was not conceded.");
        Courtyard x = Setup.withCase(0);
        x.presume(0, 0, true);
        Check.same("15: found, but not conceded", x.concede(0, 0), true);
        Check.same("15: conceded", x.concede(0, 0), false);
        Check.same("15: another fact", x.concede(0, 15), true);
        x.begin(2, 3, 0, 1, 0, 0);
        Check.same("15: another case", x.concede(1, 0), true);
    }

    private static void byTheRecord() {
        Check.sentence("by the record if the case is judged, otherwise as it would be without a default");
        Courtyard x = Setup.withCase(0);
        x.addEvidence(0, 0, true, 50, 5, -1);
        x.setPrivilege(5, 1, true);
        Check.same("19: not admitted", x.isFound(0, 0), false);
        x.setPrivilege(5, 1, false);
        x.answer(0, 255, false);
        x.judge(0);
        x.setPrivilege(5, 1, true);
        Check.same("19: judged", x.isFound(0, 0), true);
        Check.same("19: judged, the others", x.isFound(0, 15), false);
        Courtyard y = Setup.withCase(0);
        y.advance(20);
        Check.same("19: on the 20th day, without a default", y.isFound(0, 15), false);
        y.judge(0);
        Check.same("19: judged by default, the first", y.isFound(0, 0), true);
        Check.same("19: judged by default, the last", y.isFound(0, 15), true);
    }
}
