/** The sentences on days, law and holding that name a boundary, each with a test of its own. */
public final class BoundaryLawTest {
    public static void main(String[] args) {
        lastCall();
        firstDay();
        numbersOfTerms();
        sectionCount();
        ranks();
        conditionCount();
        lowerIssues();
        lowerSections();
        earlierAndLaterEffect();
        inForceByDayAndKnowledge();
        lastAct();
        onlyByAnAct();
        neverPutInForce();
        actCount();
        daysLessThanZero();
        allConditions();
        longestChainOfExceptions();
        exceptionsToOneSection();
        strongestOfThoseThatSpeak();
        noneSpeaks();
        rankUnderPrecedent();
        conditionsOnIssues();
        Check.end();
    }

    private static void lastCall() {
        Check.sentence("An object is used for at most 512 calls after it has been made");
        Courtyard x = new Courtyard();
        for (int i = 1; i < 512; i++) {
            Check.same("2: call " + i, x.advance(100), 100 * i);
        }
        Check.same("3: call 512", x.day(), 51100);
        Courtyard y = new Courtyard();
        for (int i = 1; i <= 510; i++) {
            y.advance(100);
        }
        Check.same("11: an event on the last day", y.begin(0, 1, 0, 1, 0, 51000), 0);
        Check.fails("11: call 512 is refused as any other", Check.ARGUMENT, () -> y.begin(0, 1, 0, 1, 0, 51001));
    }

    private static void firstDay() {
        Check.sentence("Days are counted from 0, which is the day at first");
        Courtyard x = new Courtyard();
        Check.same("3: the day at first", x.day(), 0);
        Check.same("2: the next one", x.advance(1), 1);
        Check.same("7: the day 0 is a day", sectionFrom(0).isInForce(0, 0, 0), true);
    }

    private static Courtyard sectionFrom(int day) {
        Courtyard x = new Courtyard();
        x.enact(0, 0, true, -1);
        x.act(0, true, day);
        return x;
    }

    private static void numbersOfTerms() {
        Check.sentence("there are the persons 0 to 9, the facts 0 to 15 and the issues 0 to 7");
        Courtyard x = new Courtyard();
        Check.same("35: person 0", x.assets(0), 0);
        Check.same("35: person 9", x.assets(9), 0);
        Check.fails("35: person 10", Check.ARGUMENT, () -> x.assets(10));
        Check.fails("35: person -1", Check.ARGUMENT, () -> x.assets(-1));
        Check.same("8: issue 0", x.setLimit(0, 1), 100);
        Check.same("8: issue 7", x.setLimit(7, 1), 100);
        Check.fails("8: issue 8", Check.ARGUMENT, () -> x.setLimit(8, 1));
        Check.fails("8: issue -1", Check.ARGUMENT, () -> x.setLimit(-1, 1));
        x.begin(0, 9, 7, 1, 0, 0);
        Check.same("15: fact 0", x.concede(0, 0), true);
        Check.same("15: fact 15", x.concede(0, 15), true);
        Check.same("19: fact 0", x.isFound(0, 0), true);
        Check.same("19: fact 15", x.isFound(0, 15), true);
        Check.same("19: between them", x.isFound(0, 14), false);
        Check.fails("15: fact 16", Check.ARGUMENT, () -> x.concede(0, 16));
        Check.fails("15: fact -1", Check.ARGUMENT, () -> x.concede(0, -1));
        Check.fails("15: fact 32, which would wrap to 0", Check.ARGUMENT, () -> x.concede(0, 32));
    }

    private static void sectionCount() {
        Check.sentence("At most 24 sections are numbered from 0.");
        Courtyard x = new Courtyard();
        Check.same("40: none", x.sections(), 0);
        for (int i = 0; i < 24; i++) {
            Check.same("4: number", x.enact(0, 0, i == 23, -1), i);
        }
        Check.same("40: full", x.sections(), 24);
        Check.fails("4: a 25th", Check.STATE, () -> x.enact(0, 0, true, -1));
        Check.fails("4: a 25th as an exception", Check.STATE, () -> x.enact(0, 0, true, 23));
        Check.same("40: still full", x.sections(), 24);
        Check.same("5: the 24th takes conditions", x.condition(23, 'f', 0), 1);
        Check.same("6: the 24th takes acts", x.act(23, true, 0), 1);
        Check.fails("6: no section 24", Check.INDEX, () -> x.act(24, true, 0));
        x.begin(0, 1, 0, 1, 0, 0);
        x.concede(0, 0);
        Check.same("33: the 24th speaks", x.wouldHold(0, 0), true);
    }

    private static void ranks() {
        Check.sentence("A section has a rank from 0 to 3, an issue, and says yes or no to it");
        Courtyard x = new Courtyard();
        Check.same("4: rank 0", Setup.law(x, 0, 0, true, -1, ""), 0);
        x.begin(0, 1, 0, 1, 0, 0);
        Check.same("33: rank 0 speaks", x.wouldHold(0, 0), true);
        Check.same("4: rank 3", Setup.law(x, 3, 0, false, -1, ""), 1);
        Check.same("33: rank 3 goes ahead", x.wouldHold(0, 0), false);
        Check.fails("4: rank 4", Check.ARGUMENT, () -> x.enact(4, 0, true, -1));
        Check.fails("4: rank -1", Check.ARGUMENT, () -> x.enact(-1, 0, true, -1));
    }

    private static void conditionCount() {
        Check.sentence("it has at most 4 conditions");
        Courtyard x = new Courtyard();
        x.enact(0, 7, true, -1);
        Check.same("5: first", x.condition(0, 'f', 0), 1);
        Check.same("5: second", x.condition(0, 'n', 1), 2);
        Check.same("5: third", x.condition(0, 'x', 0), 3);
        Check.same("5: fourth", x.condition(0, 'f', 15), 4);
        Check.fails("5: fifth", Check.STATE, () -> x.condition(0, 'f', 0));
        x.act(0, true, 0);
        x.begin(0, 1, 7, 1, 0, 0);
        x.concede(0, 0);
        Check.same("33: the fourth is not met", x.wouldHold(0, 7), false);
        x.concede(0, 15);
        Check.same("33: all four are met, and no fifth", x.wouldHold(0, 7), true);
    }

    private static void lowerIssues() {
        Check.sentence("that an issue with a lower number than its own is held, or not");
        for (int own = 0; own < 8; own++) {
            for (int other = 0; other < 8; other++) {
                Courtyard x = new Courtyard();
                x.enact(0, own, true, -1);
                int number = other;
                if (other < own) {
                    Check.same("5: issue " + other + " of " + own, x.condition(0, 'h', other), 1);
                    Check.same("5: not issue " + other + " of " + own, x.condition(0, 'x', other), 2);
                } else {
                    Check.fails("5: issue " + other + " of " + own, Check.UNSUPPORTED,
                            () -> x.condition(0, 'h', number));
                    Check.fails("5: not issue " + other + " of " + own, Check.UNSUPPORTED,
                            () -> x.condition(0, 'x', number));
                }
            }
        }
        Courtyard y = new Courtyard();
        y.enact(0, 7, true, -1);
        Check.fails("5: issue 8 is none", Check.ARGUMENT, () -> y.condition(0, 'h', 8));
        Check.fails("5: issue -1 is none", Check.ARGUMENT, () -> y.condition(0, 'x', -1));
        Check.same("5: a fact may have a higher number", y.condition(0, 'f', 8), 1);
    }

    private static void lowerSections() {
        Check.sentence("It can be an exception to a section of its issue with a lower number.");
        Courtyard x = new Courtyard();
        Check.fails("4: its own number", Check.INDEX, () -> x.enact(0, 3, true, 0));
        x.enact(0, 3, true, -1);
        x.enact(0, 3, true, -1);
        Check.fails("4: its own number behind two", Check.INDEX, () -> x.enact(0, 3, true, 2));
        Check.same("4: the last one", x.enact(0, 3, true, 1), 2);
        Check.same("4: the first one", x.enact(0, 3, true, 0), 3);
        Check.same("4: none", x.enact(0, 2, true, -1), 4);
        Check.fails("4: -2 is not none", Check.INDEX, () -> x.enact(0, 3, true, -2));
        Check.fails("4: of another issue", Check.UNSUPPORTED, () -> x.enact(0, 2, true, 0));
    }

    private static void earlierAndLaterEffect() {
        Check.sentence("each with effect from some day, which can be an earlier or a later one");
        for (int from : new int[] {0, 49, 50, 51, 9999}) {
            Courtyard x = new Courtyard();
            x.advance(50);
            x.enact(0, 0, true, -1);
            x.act(0, true, from);
            Check.same("7: from " + from, x.isInForce(0, from, 50), true);
            if (from > 0) {
                Check.same("7: the day ahead of " + from, x.isInForce(0, from - 1, 50), false);
            }
            Check.same("7: known on the day ahead", x.isInForce(0, from, 49), false);
        }
    }

    private static void inForceByDayAndKnowledge() {
        Check.sentence("of those that were done on the latter or ahead of it, and have effect from the former or from"
                + " ahead of it, puts it in force");
        Courtyard x = new Courtyard();
        x.enact(0, 0, true, -1);
        Check.same("7: no acts", x.isInForce(0, 9999, 9999), false);
        x.advance(10);
        x.act(0, true, 5);
        x.advance(10);
        x.act(0, false, 7);
        boolean[][] due = {
            // known on the day 9, 10, 19, 20; in force on the day 4, 5, 6, 7, 8
            {false, false, false, false, false},
            {false, true, true, true, true},
            {false, true, true, true, true},
            {false, true, true, false, false}};
        int[] known = {9, 10, 19, 20};
        for (int i = 0; i < known.length; i++) {
            for (int day = 4; day <= 8; day++) {
                Check.same("7: day " + day + " as known on " + known[i], x.isInForce(0, day, known[i]),
                        due[i][day - 4]);
            }
        }
        Courtyard y = new Courtyard();
        y.enact(0, 0, true, -1);
        y.act(0, false, 0);
        Check.same("7: repealed, never in force", y.isInForce(0, 0, 0), false);
    }

    private static void lastAct() {
        Check.sentence("if that one of its acts which was done last");
        Courtyard x = new Courtyard();
        x.enact(0, 0, true, -1);
        x.act(0, true, 0);
        x.act(0, false, 0);
        Check.same("7: the same day, repealed last", x.isInForce(0, 0, 0), false);
        x.act(0, true, 0);
        Check.same("7: the same day, revived last", x.isInForce(0, 0, 0), true);
        x.act(0, false, 3);
        Check.same("7: the last one has no effect yet", x.isInForce(0, 2, 0), true);
        Check.same("7: the last one has effect", x.isInForce(0, 3, 0), false);
        x.act(0, true, 1);
        Check.same("7: done last, though with effect from ahead", x.isInForce(0, 3, 0), true);
    }

    private static void onlyByAnAct() {
        Check.sentence("Enacts a section, which is in force only by an act.");
        Courtyard x = new Courtyard();
        x.enact(3, 0, true, -1);
        x.begin(0, 1, 0, 1, 0, 0);
        Check.same("7: without an act", x.isInForce(0, 0, 0), false);
        Check.same("7: without an act, far away", x.isInForce(0, Integer.MAX_VALUE, Integer.MAX_VALUE), false);
        Check.same("33: it does not apply", x.wouldHold(0, 0), false);
        x.act(0, true, 0);
        Check.same("33: by an act", x.wouldHold(0, 0), true);
    }

    private static void neverPutInForce() {
        Check.sentence("Adds a condition to a section that was never put in force.");
        Courtyard x = new Courtyard();
        x.enact(0, 0, true, -1);
        x.enact(0, 0, true, -1);
        x.enact(0, 0, true, -1);
        x.act(0, false, 0);
        Check.same("5: repealed alone", x.condition(0, 'f', 0), 1);
        x.act(1, true, 9999);
        Check.fails("5: put in force from a later day", Check.UNSUPPORTED, () -> x.condition(1, 'f', 0));
        x.act(2, true, 0);
        x.act(2, false, 0);
        Check.fails("5: put in force and repealed", Check.UNSUPPORTED, () -> x.condition(2, 'f', 0));
        Check.same("5: another one is still open", x.condition(0, 'f', 0), 2);
        x.act(0, true, 0);
        Check.fails("5: put in force behind a repeal", Check.UNSUPPORTED, () -> x.condition(0, 'f', 0));
    }

    private static void actCount() {
        Check.sentence("Throws `IllegalStateException` if it has 8 acts");
        Courtyard x = new Courtyard();
        x.enact(0, 0, true, -1);
        x.enact(0, 0, true, -1);
        for (int i = 1; i <= 7; i++) {
            Check.same("6: act " + i, x.act(0, false, 0), i);
        }
        Check.same("6: the eighth", x.act(0, true, 0), 8);
        Check.same("7: the eighth counts", x.isInForce(0, 0, 0), true);
        Check.fails("6: a ninth", Check.STATE, () -> x.act(0, false, 0));
        Check.same("7: the ninth does not", x.isInForce(0, 0, 0), true);
        Check.same("6: another section", x.act(1, true, 0), 1);
    }

    private static void daysLessThanZero() {
        Check.sentence("Throws `IllegalArgumentException` if a day is less than 0");
        Courtyard x = sectionFrom(0);
        Check.same("7: both 0", x.isInForce(0, 0, 0), true);
        Check.fails("7: day -1", Check.ARGUMENT, () -> x.isInForce(0, -1, 0));
        Check.fails("7: known -1", Check.ARGUMENT, () -> x.isInForce(0, 0, -1));
        Check.fails("7: the least day", Check.ARGUMENT, () -> x.isInForce(0, Integer.MIN_VALUE, 0));
        Check.fails("7: known on the least day", Check.ARGUMENT, () -> x.isInForce(0, 0, Integer.MIN_VALUE));
        Check.same("7: the greatest days", x.isInForce(0, Integer.MAX_VALUE, Integer.MAX_VALUE), true);
    }

    private static void allConditions() {
        Check.sentence("A section of the issue applies if it is in force and all its conditions are met");
        Courtyard x = new Courtyard();
        Setup.law(x, 0, 0, true, -1, "");
        x.begin(0, 1, 0, 1, 0, 0);
        Check.same("33: no conditions", x.wouldHold(0, 0), true);
        for (int unmet = 0; unmet < 4; unmet++) {
            Courtyard y = new Courtyard();
            Setup.law(y, 0, 7, true, -1, "f15n14f0n1");
            y.begin(0, 1, 7, 1, 0, 0);
            int[] facts = {15, 14, 0, 1};
            for (int i = 0; i < 4; i++) {
                boolean isFound = (i % 2 == 0) != (i == unmet);
                if (isFound) {
                    y.concede(0, facts[i]);
                }
            }
            Check.same("33: all but the condition " + unmet, y.wouldHold(0, 7), false);
        }
        Courtyard z = new Courtyard();
        Setup.law(z, 0, 7, true, -1, "f15n14f0n1");
        z.begin(0, 1, 7, 1, 0, 0);
        z.concede(0, 15);
        z.concede(0, 0);
        Check.same("33: all four", z.wouldHold(0, 7), true);
        z.act(0, false, 0);
        Check.same("33: all four, but not in force", z.wouldHold(0, 7), false);
    }

    private static void longestChainOfExceptions() {
        Check.sentence("it speaks if it applies, and no exception to it speaks");
        Courtyard x = new Courtyard();
        for (int i = 0; i < 24; i++) {
            Setup.law(x, 0, 0, i % 2 == 1, i - 1, "");
        }
        Setup.answered(x, 0, 1, 0, 1, 0, 0);
        Check.same("33: of 24, those with odd numbers speak", x.wouldHold(0, 0), true);
        x.act(23, false, 0);
        Check.same("33: of 23, those with even numbers", x.wouldHold(0, 0), false);
        x.act(22, false, 0);
        Check.same("33: of 22, those with odd numbers", x.wouldHold(0, 0), true);
        x.judge(0);
        Check.same("31: by the last one", x.rowBy(0, 0), 21);
    }

    private static void exceptionsToOneSection() {
        Check.sentence("no exception to it speaks");
        Courtyard x = new Courtyard();
        Setup.law(x, 3, 0, true, -1, "");
        for (int i = 1; i < 24; i++) {
            Setup.law(x, 0, 0, false, 0, i == 12 ? "f0" : "f1");
        }
        x.begin(0, 1, 0, 1, 0, 0);
        Check.same("33: none of 23 applies", x.wouldHold(0, 0), true);
        x.concede(0, 0);
        Check.same("33: one of 23 silences it", x.wouldHold(0, 0), false);
    }

    private static void strongestOfThoseThatSpeak() {
        Check.sentence("those of the highest rank count, of these those with the most conditions, of these the one with"
                + " the highest number");
        Courtyard x = new Courtyard();
        Setup.law(x, 0, 0, true, -1, "n0n0n0n0");
        Setup.law(x, 0, 0, false, -1, "n0n0n0");
        x.begin(0, 1, 0, 1, 0, 0);
        Check.same("33: four conditions ahead of three", x.wouldHold(0, 0), true);
        Setup.law(x, 0, 0, false, -1, "n1n1n1n1");
        Check.same("33: of four and four, the higher number", x.wouldHold(0, 0), false);
        Setup.law(x, 1, 0, true, -1, "");
        Check.same("33: a rank higher by 1, without conditions", x.wouldHold(0, 0), true);
        Setup.law(x, 1, 0, false, -1, "n0");
        Check.same("33: one condition ahead of none", x.wouldHold(0, 0), false);
        Setup.law(x, 3, 0, true, -1, "");
        Check.same("33: the highest rank", x.wouldHold(0, 0), true);
        Setup.law(x, 2, 0, false, -1, "n0n0n0n0");
        Check.same("33: a later one of lower rank", x.wouldHold(0, 0), true);
    }

    private static void noneSpeaks() {
        Check.sentence("If none speaks, it is not held.");
        Courtyard x = new Courtyard();
        Setup.answered(x, 0, 1, 7, 1, 0, 0);
        for (int issue = 0; issue < 8; issue++) {
            Check.same("33: without any law", x.wouldHold(0, issue), false);
        }
        Setup.law(x, 3, 7, false, -1, "");
        Check.same("33: one says no", x.wouldHold(0, 7), false);
        Check.same("22: against the plaintiff", x.judge(0), false);
        Check.same("31: by the one that says no", x.rowBy(0, 0), 0);
        Courtyard y = new Courtyard();
        Setup.judged(y, 0, 1, 7, 1, 0, 0);
        Check.same("31: by nothing", y.rowBy(0, 0), -1);
    }

    private static void rankUnderPrecedent() {
        Check.sentence("If this one has no higher rank than 1, or none speaks, and a precedent binds, the issue is as the"
                + " precedent told.");
        for (int rank = -1; rank <= 3; rank++) {
            Courtyard x = new Courtyard();
            Setup.law(x, 0, 0, true, -1, "");
            Setup.judged(x, 0, 1, 0, 1, 0, 0);
            x.act(0, false, 0);
            if (rank >= 0) {
                Setup.law(x, rank, 0, false, -1, "");
            }
            int number = Setup.answered(x, 0, 2, 0, 1, 0, 0);
            Check.same("33: rank " + rank, x.wouldHold(number, 0), rank <= 1);
            Check.same("22: rank " + rank, x.judge(number), rank <= 1);
            Check.same("31: rank " + rank, x.rowBy(number, 0), rank <= 1 ? 100 : 1);
        }
        Courtyard y = new Courtyard();
        Setup.judged(y, 0, 1, 0, 1, 0, 0);
        Setup.law(y, 1, 0, true, -1, "");
        int number = Setup.answered(y, 0, 2, 0, 1, 0, 0);
        Check.same("33: a precedent that told no", y.wouldHold(number, 0), false);
    }

    private static void conditionsOnIssues() {
        Check.sentence("The issues of conditions are held or not in the same way.");
        Courtyard x = new Courtyard();
        Setup.law(x, 0, 0, true, -1, "f0");
        for (int issue = 1; issue < 8; issue++) {
            Setup.law(x, 0, issue, true, -1, "h" + (issue - 1));
        }
        x.begin(0, 1, 7, 1, 0, 0);
        Check.same("33: the first of eight is not held", x.wouldHold(0, 7), false);
        x.concede(0, 0);
        Check.same("33: the first of eight is held", x.wouldHold(0, 7), true);
        Courtyard y = new Courtyard();
        for (int issue = 1; issue < 8; issue++) {
            Setup.law(y, 0, issue, true, -1, "x" + (issue - 1));
        }
        y.begin(0, 1, 7, 1, 0, 0);
        for (int issue = 0; issue < 8; issue++) {
            Check.same("33: each other one is held, " + issue, y.wouldHold(0, issue), issue % 2 == 1);
        }
    }
}
