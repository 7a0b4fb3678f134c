import java.lang.reflect.Field;
import java.util.List;

/** The sentences on judgments, precedents and appeals that name a boundary, each with a test of its own. */
public final class BoundaryJudgmentTest {
    public static void main(String[] args) throws ReflectiveOperationException {
        actsAheadOnTheSameDay();
        lawOfTheEvent();
        barredAndPleaded();
        recordOfAllFacts();
        longestDerivation();
        noRows();
        rowsByRisingNumbers();
        askedIssues();
        precedentFromThenOn();
        courtNotLower();
        notInItsOwnCase();
        overruledDoesNotBind();
        factsFoundAlike();
        noFactsNamed();
        highestCourtThenLatest();
        overrulesCourtsNotHigher();
        overrulesAnotherOutcome();
        overrulesFactsAlike();
        newLawOutlivesPrecedent();
        appealedByTheOneWhoLost();
        appealUpToTheThirtiethDay();
        higherByOne();
        recordOnAppeal();
        barredComesOutTheSame();
        affirmedOrReversed();
        oldOneIsNoPrecedent();
        overruledStaysSo();
        finalDays();
        stayedIsNotFinal();
        shareOfNone();
        shares();
        meanOfBarred();
        sound();
        unsoundDerivation();
        unsoundTwins();
        Check.end();
    }

    private static void actsAheadOnTheSameDay() {
        Check.sentence("by the acts that were done ahead of it, also on the same day");
        Courtyard x = new Courtyard();
        x.advance(5);
        Setup.answered(x, 0, 1, 0, 1, 0, 5);
        Setup.answered(x, 0, 1, 1, 1, 0, 5);
        Setup.law(x, 2, 0, true, -1, "");
        Check.same("22: an act of the day, ahead of it", x.judge(0), true);
        Check.same("22: no act ahead of it", x.judge(1), false);
        Setup.law(x, 2, 1, true, -1, "");
        x.act(0, false, 0);
        Check.same("26: an act of the day, behind it", x.outcome(0), true);
        Check.same("30: its row", x.rowHeld(0, 0), true);
        Check.same("26: nor for the other", x.outcome(1), false);
        Check.same("45: sound", x.isSound(), true);
    }

    private static void lawOfTheEvent() {
        Check.sentence("A case is judged by the law of the day of its event, as known at the judgment");
        for (int event = 3; event <= 7; event++) {
            Courtyard x = new Courtyard();
            x.advance(10);
            Setup.answered(x, 0, 9, 0, 1, 0, event);
            x.enact(2, 0, true, -1);
            x.act(0, true, 4);
            x.act(0, false, 6);
            Check.same("33: event " + event, x.wouldHold(0, 0), event == 4 || event == 5);
            Check.same("22: event " + event, x.judge(0), event == 4 || event == 5);
        }
    }

    private static void barredAndPleaded() {
        Check.sentence("It goes against the plaintiff if it is barred in time and this is pleaded");
        for (int days = 0; days < 2; days++) {
            for (int pleads = 0; pleads < 2; pleads++) {
                Courtyard x = Setup.always();
                x.setLimit(0, 0);
                Setup.pass(x, days);
                x.begin(0, 1, 0, 1, 0, 0);
                x.answer(0, 255, pleads == 1);
                boolean isBarred = days == 1 && pleads == 1;
                String how = days + " days of 0, pleads " + pleads;
                Check.same("22: " + how, x.judge(0), !isBarred);
                Check.same("28: " + how, x.rows(0), isBarred ? 0 : 1);
                Check.same("32: " + how, x.isPrecedent(0), !isBarred);
                Check.same("21: " + how, x.isLate(0), days == 1);
            }
        }
        Courtyard y = Setup.always();
        y.setLimit(0, 0);
        y.advance(1);
        y.begin(0, 1, 0, 1, 0, 0);
        y.advance(20);
        Check.same("22: without an answer nothing is pleaded", y.judge(0), true);
    }

    private static void recordOfAllFacts() {
        Check.sentence("The facts as they were found, all 16, are its record.");
        for (int fact = 0; fact < 16; fact++) {
            Courtyard x = Setup.withCase(0);
            x.addEvidence(0, fact, true, 50, 5, -1);
            x.answer(0, 0, false);
            x.judge(0);
            x.setPrivilege(5, 1, true);
            for (int asked = 0; asked < 16; asked++) {
                Check.same("19: found " + fact + ", asked " + asked, x.isFound(0, asked), asked == fact);
            }
        }
    }

    private static Courtyard withAllIssuesAsked() {
        Courtyard x = new Courtyard();
        Setup.law(x, 2, 7, true, -1, "h6h5h4h3");
        Setup.law(x, 2, 7, true, -1, "x2x1x0");
        x.begin(0, 1, 7, 1, 0, 0);
        return x;
    }

    private static void longestDerivation() {
        Check.sentence("Its derivation has, for each issue that was asked, by rising numbers, whether it was held");
        Courtyard x = withAllIssuesAsked();
        x.answer(0, 255, false);
        Check.same("22: by the second section", x.judge(0), true);
        Check.same("28: all eight", x.rows(0), 8);
        for (int row = 0; row < 8; row++) {
            Check.same("29: row " + row, x.rowIssue(0, row), row);
            Check.same("30: row " + row, x.rowHeld(0, row), row == 7);
            Check.same("31: row " + row, x.rowBy(0, row), row == 7 ? 1 : -1);
        }
        Check.fails("29: row 8", Check.NONE, () -> x.rowIssue(0, 8));
        Check.fails("30: row 8", Check.NONE, () -> x.rowHeld(0, 8));
        Check.fails("31: row 8", Check.NONE, () -> x.rowBy(0, 8));
        Check.fails("29: row -1", Check.NONE, () -> x.rowIssue(0, -1));
    }

    private static void noRows() {
        Check.sentence("Returns the number of rows of the derivation of a judgment: 0 if it was barred in time.");
        Courtyard x = withAllIssuesAsked();
        x.advance(1);
        x.setLimit(7, 0);
        x.begin(0, 2, 7, 1, 0, 0);
        x.answer(1, 255, true);
        x.judge(1);
        Check.same("28: none", x.rows(1), 0);
        Check.fails("29: no row 0", Check.NONE, () -> x.rowIssue(1, 0));
        Check.fails("30: no row 0", Check.NONE, () -> x.rowHeld(1, 0));
        Check.fails("31: no row 0", Check.NONE, () -> x.rowBy(1, 0));
        x.begin(0, 3, 0, 1, 0, 0);
        x.answer(2, 0, true);
        x.judge(2);
        Check.same("28: the least of one in time", x.rows(2), 1);
    }

    private static void rowsByRisingNumbers() {
        Check.sentence("Returns the issue of a row.");
        Courtyard x = new Courtyard();
        Setup.law(x, 2, 7, true, -1, "h5");
        Setup.law(x, 2, 5, true, -1, "x0");
        Setup.law(x, 2, 7, true, -1, "h2");
        Setup.judged(x, 0, 1, 7, 1, 0, 0);
        int[] issues = {0, 2, 5, 7};
        int[] by = {-1, -1, 1, 0};
        Check.same("28: rows", x.rows(0), 4);
        for (int row = 0; row < 4; row++) {
            Check.same("29: row " + row, x.rowIssue(0, row), issues[row]);
            Check.same("30: row " + row, x.rowHeld(0, row), row >= 2);
            Check.same("31: row " + row, x.rowBy(0, row), by[row]);
        }
    }

    private static void askedIssues() {
        Check.sentence("An issue is asked if it is that of the case, or that of a condition, which is not waived, of any"
                + " section in force of an issue that is asked, exceptions included, whether it applies or not.");
        for (int waived = 0; waived < 7; waived++) {
            Courtyard x = withAllIssuesAsked();
            x.answer(0, 255 - (1 << waived), false);
            x.judge(0);
            Check.same("28: " + waived + " is waived", x.rows(0), 7);
            Check.same("29: " + waived + " is not asked", x.rowIssue(0, waived), waived + 1);
        }
        Courtyard y = withAllIssuesAsked();
        y.act(1, false, 0);
        y.answer(0, 255, false);
        y.judge(0);
        Check.same("28: one section is not in force", y.rows(0), 5);
        Courtyard z = new Courtyard();
        Setup.law(z, 2, 7, true, -1, "");
        Setup.law(z, 0, 7, false, 0, "f0h1");
        Setup.judged(z, 0, 1, 7, 1, 0, 0);
        Check.same("28: an exception that does not apply asks", z.rows(0), 2);
        Check.same("29: its issue", z.rowIssue(0, 0), 1);
        Courtyard w = new Courtyard();
        Setup.law(w, 2, 7, true, -1, "h6");
        Setup.law(w, 2, 6, true, -1, "h5");
        Setup.law(w, 2, 4, true, -1, "h3");
        w.begin(0, 1, 7, 1, 0, 0);
        w.answer(0, 255 - 64, false);
        w.judge(0);
        Check.same("28: behind a waived one nothing is asked", w.rows(0), 1);
    }

    private static void precedentFromThenOn() {
        Check.sentence("A judgment that is not barred in time is a precedent on its issue from then on.");
        Courtyard x = new Courtyard();
        Setup.law(x, 0, 0, true, -1, "");
        Setup.answered(x, 0, 1, 0, 1, 0, 0);
        Setup.answered(x, 0, 2, 0, 1, 0, 0);
        Setup.answered(x, 0, 2, 1, 1, 0, 0);
        Check.fails("32: not judged", Check.NONE, () -> x.isPrecedent(0));
        x.act(0, false, 0);
        Check.same("33: not yet", x.wouldHold(1, 0), false);
        x.act(0, true, 0);
        x.judge(0);
        x.act(0, false, 0);
        Check.same("32: from then on", x.isPrecedent(0), true);
        Check.same("33: on the same day", x.wouldHold(1, 0), true);
        Check.same("33: not on another issue", x.wouldHold(1, 1), false);
        Check.same("33: in a case of another issue", x.wouldHold(2, 0), true);
        Setup.pass(x, 1000);
        Check.same("33: long behind it", x.wouldHold(1, 0), true);
    }

    private static void courtNotLower() {
        Check.sentence("It binds in a case if its court is not lower");
        for (int court = 0; court < 3; court++) {
            for (int asked = 0; asked < 3; asked++) {
                Courtyard x = new Courtyard();
                Setup.law(x, 0, 0, true, -1, "");
                Setup.judged(x, 0, 1, 0, 1, court, 0);
                x.act(0, false, 0);
                Setup.answered(x, 0, 2, 0, 1, asked, 0);
                String how = "the court " + court + " in the court " + asked;
                Check.same("33: " + how, x.wouldHold(1, 0), court >= asked);
                Check.same("22: " + how, x.judge(1), court >= asked);
            }
        }
    }

    private static void notInItsOwnCase() {
        Check.sentence("neither the case is the same, nor the precedent is overruled");
        Courtyard x = new Courtyard();
        Setup.law(x, 0, 0, true, -1, "");
        Setup.judged(x, 0, 1, 0, 1, 1, 0);
        x.act(0, false, 0);
        Check.same("32: a precedent", x.isPrecedent(0), true);
        Check.same("33: not in its own case", x.wouldHold(0, 0), false);
        x.appeal(0);
        Check.same("24: nor on appeal", x.decide(0), 'r');
        Check.same("31: by nothing", x.rowBy(0, 0), -1);
    }

    private static void overruledDoesNotBind() {
        Check.sentence("nor the precedent is overruled");
        Courtyard x = new Courtyard();
        Setup.law(x, 2, 0, true, -1, "");
        Setup.judged(x, 0, 1, 0, 1, 0, 0);
        x.act(0, false, 0);
        int asked = Setup.answered(x, 0, 2, 0, 1, 0, 0);
        Check.same("33: it binds", x.wouldHold(asked, 0), true);
        Setup.law(x, 2, 0, false, -1, "");
        int contrary = Setup.judged(x, 0, 3, 0, 1, 0, 0);
        x.act(1, false, 0);
        Check.same("32: overruled", x.isPrecedent(0), false);
        x.judge(asked);
        Check.same("31: by the one that overruled", x.rowBy(asked, 0), 100 + contrary);
        Check.same("22: as that told", x.outcome(asked), false);
    }

    private static void factsFoundAlike() {
        Check.sentence("and the facts that any section of this issue names in conditions are found alike in both");
        for (int named = 0; named < 16; named++) {
            Courtyard x = new Courtyard();
            Setup.section(x, 0, 0, true, -1, (named % 2 == 0 ? "f" : "n") + named);
            Setup.section(x, 0, 1, true, -1, "f" + (15 - named));
            int law = Setup.law(x, 0, 0, true, -1, "");
            x.begin(0, 1, 0, 1, 0, 0);
            x.concede(0, named);
            x.answer(0, 255, false);
            x.judge(0);
            x.act(law, false, 0);
            Setup.answered(x, 0, 2, 0, 1, 0, 0);
            Check.same("33: unlike in the named fact " + named, x.wouldHold(1, 0), false);
            x.concede(1, named);
            Check.same("33: alike in the named fact " + named, x.wouldHold(1, 0), true);
            for (int other = 0; other < 16; other++) {
                x.concede(1, other);
            }
            Check.same("33: unlike in all others than " + named, x.wouldHold(1, 0), true);
            Setup.answered(x, 0, 3, 0, 1, 0, 0);
            for (int other = 0; other < 16; other++) {
                if (other != named) {
                    x.concede(2, other);
                }
            }
            Check.same("33: unlike in " + named + " and all others", x.wouldHold(2, 0), false);
        }
    }

    private static void noFactsNamed() {
        Check.sentence("the facts that any section of this issue names");
        Courtyard x = new Courtyard();
        int law = Setup.law(x, 0, 1, true, -1, "h0");
        Setup.law(x, 3, 0, true, -1, "");
        x.begin(0, 1, 1, 1, 0, 0);
        for (int fact = 0; fact < 16; fact++) {
            x.concede(0, fact);
        }
        x.answer(0, 255, false);
        x.judge(0);
        x.act(law, false, 0);
        int number = Setup.answered(x, 0, 2, 1, 1, 0, 0);
        Check.same("33: no section names a fact, so all are alike", x.wouldHold(number, 1), true);
        Setup.section(x, 0, 1, true, -1, "n15");
        Check.same("33: one that was never in force names one", x.wouldHold(number, 1), false);
    }

    private static void highestCourtThenLatest() {
        Check.sentence("of several, the one of the highest court counts, then the latest");
        int[][] orders = {{0, 1, 2}, {0, 2, 1}, {1, 0, 2}, {1, 2, 0}, {2, 0, 1}, {2, 1, 0}};
        for (int[] order : orders) {
            Courtyard x = Setup.always();
            for (int court : new int[] {1, 1, 2}) {
                Setup.answered(x, 0, x.cases() + 1, 0, 1, court, 0);
            }
            for (int number : order) {
                x.judge(number);
            }
            x.act(0, false, 0);
            Setup.judged(x, 0, 8, 0, 1, 0, 0);
            Check.same("31: the highest court", x.rowBy(3, 0), 102);
            Courtyard y = Setup.always();
            for (int i = 0; i < 3; i++) {
                Setup.answered(y, 0, i + 1, 0, 1, 1, 0);
            }
            for (int number : order) {
                y.judge(number);
            }
            y.act(0, false, 0);
            Setup.judged(y, 0, 8, 0, 1, 0, 0);
            Check.same("31: the latest judgment", y.rowBy(3, 0), 100 + order[2]);
        }
    }

    private static void overrulesCourtsNotHigher() {
        Check.sentence("A judgment overrules all precedents of courts that are not higher on the same issue");
        for (int court = 0; court < 3; court++) {
            Courtyard x = Setup.always();
            for (int other = 0; other < 3; other++) {
                Setup.judged(x, other, 9, 0, 1, other, 0);
            }
            Setup.law(x, 3, 1, true, -1, "");
            Setup.judged(x, 4, 9, 1, 1, 0, 0);
            x.act(0, false, 0);
            Setup.law(x, 3, 0, false, -1, "");
            int number = Setup.judged(x, 5, 9, 0, 1, court, 0);
            Check.same("22: another outcome", x.outcome(number), false);
            for (int other = 0; other < 3; other++) {
                Check.same("32: " + other + " by " + court, x.isPrecedent(other), other > court);
            }
            Check.same("32: of another issue", x.isPrecedent(3), true);
            Check.same("32: itself", x.isPrecedent(number), true);
        }
    }

    private static void overrulesAnotherOutcome() {
        Check.sentence("and with another outcome");
        Courtyard x = Setup.always();
        Setup.judged(x, 0, 9, 0, 1, 0, 0);
        Setup.judged(x, 1, 9, 0, 1, 2, 0);
        Check.same("32: the same outcome, for", x.isPrecedent(0), true);
        Courtyard y = new Courtyard();
        Setup.judged(y, 0, 9, 0, 1, 0, 0);
        Setup.judged(y, 1, 9, 0, 1, 2, 0);
        Check.same("32: the same outcome, against", y.isPrecedent(0), true);
        Setup.law(y, 2, 0, true, -1, "");
        Setup.judged(y, 2, 9, 0, 1, 1, 0);
        Check.same("32: against, overruled", y.isPrecedent(0), false);
        Check.same("32: against, of a higher court", y.isPrecedent(1), true);
    }

    private static void overrulesFactsAlike() {
        Check.sentence("with such facts alike");
        for (int fact = 0; fact < 16; fact++) {
            Courtyard x = new Courtyard();
            Setup.law(x, 0, 0, true, -1, "f" + fact);
            Setup.judged(x, 0, 9, 0, 1, 0, 0);
            x.begin(1, 9, 0, 1, 2, 0);
            x.concede(1, fact);
            x.answer(1, 255, false);
            Check.same("22: for", x.judge(1), true);
            Check.same("32: unlike in the fact " + fact, x.isPrecedent(0), true);
            Setup.law(x, 2, 0, true, -1, "n" + fact);
            Setup.judged(x, 2, 9, 0, 1, 0, 0);
            Check.same("32: alike in the fact " + fact, x.isPrecedent(0), false);
            Check.same("32: the other one stays", x.isPrecedent(1), true);
            Setup.law(x, 3, 0, false, -1, "f" + fact);
            x.begin(3, 9, 0, 1, 2, 0);
            x.concede(3, fact);
            x.answer(3, 255, false);
            Check.same("22: against", x.judge(3), false);
            Check.same("32: found in both, so alike", x.isPrecedent(1), false);
            Check.same("32: not found in one", x.isPrecedent(2), true);
        }
    }

    private static void newLawOutlivesPrecedent() {
        Check.sentence("Returns the section, 100 plus the case of a precedent, or -1 for nothing that spoke.");
        Courtyard x = new Courtyard();
        for (int i = 0; i < 24; i++) {
            Setup.law(x, i == 23 ? 2 : 0, 0, true, -1, "");
        }
        for (int i = 0; i < 15; i++) {
            Setup.judged(x, i % 9, 9, 0, 1, 2, i / 9);
            if (i == 0) {
                x.advance(1);
            }
        }
        Check.same("31: the last section", x.rowBy(14, 0), 23);
        x.act(23, false, 0);
        Setup.judged(x, 0, 8, 0, 1, 0, 0);
        Check.same("31: the last but one case", x.rowBy(15, 0), 114);
        Courtyard y = new Courtyard();
        Setup.law(y, 1, 0, true, -1, "");
        Setup.judged(y, 0, 1, 0, 1, 0, 0);
        Check.same("31: the section 0", y.rowBy(0, 0), 0);
        Setup.judged(y, 0, 2, 0, 1, 0, 0);
        Check.same("31: the case 0", y.rowBy(1, 0), 100);
    }

    private static void appealedByTheOneWhoLost() {
        Check.sentence("A judgment of the court 0 or 1 can be appealed by the one who lost");
        for (int court = 0; court < 3; court++) {
            Courtyard x = Setup.always();
            Setup.judged(x, 0, 9, 0, 1, court, 0);
            Setup.judged(x, 9, 0, 1, 1, court, 0);
            if (court == 2) {
                Check.fails("23: court 2, for", Check.UNSUPPORTED, () -> x.appeal(0));
                Check.fails("23: court 2, against", Check.UNSUPPORTED, () -> x.appeal(1));
            } else {
                Check.same("23: the defendant lost", x.appeal(0), 9);
                Check.same("23: the plaintiff lost", x.appeal(1), 9);
                Check.fails("23: stayed", Check.UNSUPPORTED, () -> x.appeal(0));
            }
        }
        Courtyard y = Setup.withCase(0);
        Check.fails("23: begun", Check.NONE, () -> y.appeal(0));
        y.answer(0, 255, false);
        Check.fails("23: answered", Check.NONE, () -> y.appeal(0));
    }

    private static void appealUpToTheThirtiethDay() {
        Check.sentence("up to the 30th day behind it");
        for (int days : new int[] {0, 1, 29, 30, 31, 32}) {
            Courtyard x = Setup.withCase(7);
            x.answer(0, 255, false);
            x.advance(3);
            x.judge(0);
            Setup.pass(x, days);
            if (days <= 30) {
                Check.same("23: day " + days, x.appeal(0), 0);
            } else {
                Check.fails("23: day " + days, Check.UNSUPPORTED, () -> x.appeal(0));
            }
        }
        Courtyard y = Setup.withCase(0);
        y.answer(0, 255, false);
        y.judge(0);
        y.advance(30);
        y.appeal(0);
        y.advance(20);
        y.decide(0);
        y.advance(30);
        Check.same("23: the 30th day behind the new one", y.appeal(0), 0);
        Courtyard z = Setup.withCase(0);
        z.answer(0, 255, false);
        z.judge(0);
        z.appeal(0);
        z.decide(0);
        z.advance(31);
        Check.fails("23: the 31st day behind the new one", Check.UNSUPPORTED, () -> z.appeal(0));
    }

    private static void higherByOne() {
        Check.sentence("The case is then stayed, and can be decided anew, by the court that is higher by 1");
        Courtyard x = Setup.withCase(0);
        x.answer(0, 255, false);
        Check.fails("24: not judged", Check.UNSUPPORTED, () -> x.decide(0));
        x.judge(0);
        for (int court = 0; court < 2; court++) {
            Check.fails("24: not appealed", Check.UNSUPPORTED, () -> x.decide(0));
            x.appeal(0);
            Check.same("27: while it is stayed", x.court(0), court);
            Check.same("24: affirmed", x.decide(0), 'a');
            Check.same("27: higher by 1", x.court(0), court + 1);
        }
        Check.fails("23: never higher than 2", Check.UNSUPPORTED, () -> x.appeal(0));
        Check.fails("24: nor decided", Check.UNSUPPORTED, () -> x.decide(0));
        Check.same("27: court 2", x.court(0), 2);
        Courtyard y = new Courtyard();
        Setup.law(y, 0, 0, true, -1, "");
        Setup.judged(y, 0, 1, 0, 1, 0, 0);
        y.act(0, false, 0);
        Setup.judged(y, 0, 2, 0, 1, 0, 0);
        y.appeal(1);
        Check.same("24: a precedent of court 0 does not bind court 1", y.decide(1), 'r');
    }

    private static void recordOnAppeal() {
        Check.sentence("on the record as it is, by the law of the day of the event, as known at the new judgment");
        Courtyard x = new Courtyard();
        x.enact(2, 0, true, -1);
        x.condition(0, 'f', 15);
        x.advance(10);
        x.act(0, true, 5);
        x.begin(0, 1, 0, 1, 0, 5);
        x.addEvidence(0, 15, true, 50, 5, -1);
        x.answer(0, 255, false);
        x.judge(0);
        x.setPrivilege(5, 1, true);
        x.appeal(0);
        x.act(0, false, 6);
        Check.same("24: the record, and the day of the event", x.decide(0), 'a');
        x.appeal(0);
        x.act(0, false, 5);
        Check.same("24: as known at the new judgment, on its day", x.decide(0), 'r');
        Check.same("19: the record stays", x.isFound(0, 15), true);
    }

    private static void barredComesOutTheSame() {
        Check.sentence("one that was barred in time comes out the same");
        Courtyard x = Setup.always();
        x.advance(1);
        x.setLimit(0, 0);
        x.begin(0, 1, 0, 100, 0, 0);
        x.answer(0, 255, true);
        x.judge(0);
        x.setLimit(0, 999);
        for (int court = 1; court <= 2; court++) {
            Check.same("23: the plaintiff", x.appeal(0), 0);
            Check.same("24: affirmed", x.decide(0), 'a');
            Check.same("27: court", x.court(0), court);
            Check.same("28: no rows", x.rows(0), 0);
            Check.same("32: no precedent", x.isPrecedent(0), false);
            Check.same("36: no debt", x.debt(0), 0);
        }
        Check.same("25: final", x.stateOf(0), 'f');
    }

    private static void affirmedOrReversed() {
        Check.sentence("If it comes out the same, it is affirmed, otherwise reversed");
        for (int before = 0; before < 2; before++) {
            for (int after = 0; after < 2; after++) {
                Courtyard x = Setup.always();
                x.act(0, before == 1, 0);
                Setup.judged(x, 0, 1, 0, 100, 0, 0);
                Check.same("23: who lost", x.appeal(0), before);
                x.act(0, after == 1, 0);
                Check.same("24: " + before + " then " + after, x.decide(0), before == after ? 'a' : 'r');
                Check.same("26: " + before + " then " + after, x.outcome(0), after == 1);
                Check.same("36: " + before + " then " + after, x.debt(0), 100 * after);
            }
        }
    }

    private static void oldOneIsNoPrecedent() {
        Check.sentence("the new judgment takes the place of the old one, which is no precedent any more");
        Courtyard x = Setup.always();
        Setup.judged(x, 0, 1, 0, 1, 0, 0);
        Setup.answered(x, 0, 2, 0, 1, 0, 0);
        x.appeal(0);
        x.act(0, false, 0);
        Check.same("32: while it is stayed", x.isPrecedent(0), true);
        Check.same("33: while it is stayed", x.wouldHold(1, 0), true);
        x.decide(0);
        Check.same("32: the new one", x.isPrecedent(0), true);
        Check.same("33: as the new one told", x.wouldHold(1, 0), false);
        x.judge(1);
        Check.same("31: by the new one", x.rowBy(1, 0), 100);
        Courtyard y = Setup.always();
        Setup.judged(y, 0, 1, 0, 1, 0, 0);
        y.act(0, false, 0);
        Setup.law(y, 3, 0, false, -1, "");
        Setup.judged(y, 0, 2, 0, 1, 0, 0);
        Check.same("32: overruled", y.isPrecedent(0), false);
        y.appeal(0);
        Check.same("32: overruled and stayed", y.isPrecedent(0), false);
        Check.same("24: reversed", y.decide(0), 'r');
        Check.same("32: the new one is not overruled", y.isPrecedent(0), true);
        Check.same("32: the one that overruled the old one", y.isPrecedent(1), true);
    }

    private static void overruledStaysSo() {
        Check.sentence("what that overruled stays so");
        Courtyard x = Setup.always();
        Setup.judged(x, 0, 1, 0, 1, 0, 0);
        x.act(0, false, 0);
        Setup.law(x, 3, 0, false, -1, "");
        Setup.judged(x, 0, 2, 0, 1, 0, 0);
        Check.same("32: overruled", x.isPrecedent(0), false);
        x.act(1, false, 0);
        x.act(0, true, 0);
        x.appeal(1);
        Check.same("24: reversed", x.decide(1), 'r');
        Check.same("32: it stays so", x.isPrecedent(0), false);
        Check.same("32: the new one is one", x.isPrecedent(1), true);
    }

    private static void finalDays() {
        Check.sentence("A judgment is final if its court is 2, or it was not appealed up to the 30th day, from the 31st"
                + " day on.");
        for (int court = 0; court < 3; court++) {
            Courtyard x = new Courtyard();
            x.advance(4);
            Setup.judged(x, 0, 1, 0, 1, court, 0);
            Check.same("25: at once, court " + court, x.stateOf(0), court == 2 ? 'f' : 'j');
            x.advance(30);
            Check.same("25: the 30th day, court " + court, x.stateOf(0), court == 2 ? 'f' : 'j');
            x.advance(1);
            Check.same("25: the 31st day, court " + court, x.stateOf(0), 'f');
            x.advance(100);
            Check.same("25: later, court " + court, x.stateOf(0), 'f');
        }
    }

    private static void stayedIsNotFinal() {
        Check.sentence("Throws `UnsupportedOperationException` if it is stayed, its court is 2, or the 30th day is over");
        Courtyard x = Setup.always();
        Setup.judged(x, 0, 1, 0, 100, 1, 0);
        x.advance(30);
        x.appeal(0);
        x.advance(1);
        Check.same("25: stayed on the 31st day", x.stateOf(0), 's');
        Check.fails("23: stayed", Check.UNSUPPORTED, () -> x.appeal(0));
        Check.fails("38: stayed", Check.UNSUPPORTED, () -> x.enforce(0));
        Setup.pass(x, 400);
        Check.same("25: stayed for long", x.stateOf(0), 's');
        Check.same("24: decided for long", x.decide(0), 'a');
        Check.same("25: final", x.stateOf(0), 'f');
        Check.fails("23: final", Check.UNSUPPORTED, () -> x.appeal(0));
    }

    private static void shareOfNone() {
        Check.sentence("Throws `ArithmeticException` if there are none");
        Courtyard x = Setup.withCase(0);
        Check.fails("43: begun", Check.ARITHMETIC, () -> x.wonShare());
        Check.fails("44: begun", Check.ARITHMETIC, () -> x.meanRows());
        x.answer(0, 255, false);
        Check.fails("43: answered", Check.ARITHMETIC, () -> x.wonShare());
        Check.fails("44: answered", Check.ARITHMETIC, () -> x.meanRows());
        x.judge(0);
        Check.sameDouble("43: none of one", x.wonShare(), 0);
        Check.sameDouble("44: one of one", x.meanRows(), 1);
        Courtyard y = new Courtyard();
        Check.fails("43: no case", Check.ARITHMETIC, () -> y.wonShare());
        Check.fails("44: no case", Check.ARITHMETIC, () -> y.meanRows());
    }

    private static void shares() {
        Check.sentence("Returns their number divided by that of cases that are judged, stayed or final, both converted to"
                + " float.");
        Courtyard x = Setup.always();
        Setup.law(x, 3, 1, false, -1, "h0");
        for (int i = 0; i < 16; i++) {
            boolean isWon = i % 3 == 0;
            Setup.judged(x, i % 9, 9, isWon ? 0 : 1, 1, i % 3, i == 0 ? 0 : i / 9);
            if (i == 0) {
                x.advance(1);
            }
            int won = i / 3 + 1;
            Check.sameDouble("43: of " + (i + 1), x.wonShare(), (float) won / (float) (i + 1));
            Check.sameDouble("44: of " + (i + 1), x.meanRows(), (double) (2 * (i + 1) - won) / (double) (i + 1));
        }
        x.appeal(0);
        Check.sameDouble("43: a stayed one counts", x.wonShare(), 6f / 16f);
        x.advance(31);
        Check.sameDouble("43: final ones count", x.wonShare(), 6f / 16f);
    }

    private static void meanOfBarred() {
        Check.sentence("Returns the mean number of rows of the derivations, as they stand.");
        Courtyard x = Setup.always();
        x.advance(1);
        x.setLimit(0, 0);
        for (int i = 0; i < 2; i++) {
            x.begin(i, 9, 0, 1, 0, 0);
            x.answer(i, 255, true);
            x.judge(i);
        }
        Check.sameDouble("44: no rows at all", x.meanRows(), 0);
        Check.sameDouble("43: none won", x.wonShare(), 0);
        Setup.judged(x, 3, 9, 0, 1, 0, 1);
        Check.sameDouble("44: one row of three", x.meanRows(), 1.0 / 3.0);
        Check.sameDouble("43: one of three", x.wonShare(), 1f / 3f);
    }

    private static void sound() {
        Check.sentence("Checks whether each judgment that was not barred in time, and has no precedent in its derivation,"
                + " is what its record gives");
        Courtyard x = new Courtyard();
        Check.same("45: nothing", x.isSound(), true);
        for (int i = 0; i < 24; i++) {
            Setup.law(x, i % 4, i % 8, i % 3 == 0, -1, "f" + i % 16);
        }
        x.advance(1);
        x.setLimit(3, 0);
        for (int i = 0; i < 16; i++) {
            x.begin(i % 9, 9, i % 8, 1, i % 3, i / 9);
            x.concede(i, i);
            x.answer(i, 255 - i, i % 2 == 1);
            Check.same("45: answered", x.isSound(), true);
            x.judge(i);
            x.act(i, false, 0);
            Check.same("45: judged and repealed", x.isSound(), true);
        }
        for (int i = 0; i < 16; i += 3) {
            x.appeal(i);
            Check.same("45: stayed", x.isSound(), true);
            x.decide(i);
            Check.same("45: decided", x.isSound(), true);
        }
    }

    /** No call of the face can make it unsound, so the test changes what the object holds. */
    private static void unsoundDerivation() throws ReflectiveOperationException {
        Check.sentence("is what its record gives by the law of the day of its event as known at the judgment");
        for (String[] change : new String[][] {{"isWon", "held"}, {"record"}, {"held"}, {"asked"}, {"isWon"},
            {"sources"}, {"actsBefore"}}) {
            Courtyard x = withTwoJudgments();
            Check.same("45: as it was judged", x.isSound(), true);
            for (String name : change) {
                spoil(held(suitOf(x, 0), "judgment"), name);
            }
            Check.same("45: changed " + change[0], x.isSound(), false);
            set(held(suitOf(x, 0), "judgment"), "isBarred", true);
            Check.same("45: barred in time, it is not checked", x.isSound(), true);
            Courtyard y = withTwoJudgments();
            Object second = held(suitOf(y, 1), "judgment");
            Check.same("31: by a precedent", y.rowBy(1, 0), 100);
            set(second, "isWon", false);
            Check.same("45: by a precedent, it is not checked", y.isSound(), true);
        }
    }

    private static void unsoundTwins() throws ReflectiveOperationException {
        Check.sentence("no two cases are between the same persons on the same issue and event");
        Courtyard x = new Courtyard();
        for (int i = 0; i < 16; i++) {
            x.begin(i % 9, 9, i / 9, 1, 0, 0);
        }
        Check.same("45: sixteen", x.isSound(), true);
        List<?> docket = (List<?>) held(x, "docket");
        List<Object> changed = castToObjects(docket);
        Object last = changed.get(15);
        for (int i = 0; i < 15; i++) {
            changed.set(15, changed.get(i));
            Check.same("45: the last one is the one " + i + " again", x.isSound(), false);
        }
        changed.set(15, last);
        Check.same("45: sixteen again", x.isSound(), true);
    }

    @SuppressWarnings("unchecked")
    private static List<Object> castToObjects(List<?> list) {
        return (List<Object>) list;
    }

    private static Courtyard withTwoJudgments() {
        Courtyard x = new Courtyard();
        Setup.law(x, 0, 0, true, -1, "f0");
        x.begin(0, 1, 0, 1, 0, 0);
        x.concede(0, 0);
        x.answer(0, 255, false);
        x.judge(0);
        x.begin(0, 2, 0, 1, 0, 0);
        x.concede(1, 0);
        x.answer(1, 255, false);
        x.judge(1);
        return x;
    }

    private static Object suitOf(Courtyard x, int number) throws ReflectiveOperationException {
        return ((List<?>) held(x, "docket")).get(number);
    }

    private static Object held(Object owner, String name) throws ReflectiveOperationException {
        return field(owner, name).get(owner);
    }

    private static void set(Object owner, String name, Object value) throws ReflectiveOperationException {
        field(owner, name).set(owner, value);
    }

    private static Field field(Object owner, String name) throws ReflectiveOperationException {
        Field field = owner.getClass().getDeclaredField(name);
        field.setAccessible(true);
        return field;
    }

    private static void spoil(Object owner, String name) throws ReflectiveOperationException {
        Object value = held(owner, name);
        if (value instanceof Boolean is) {
            set(owner, name, !is);
        } else if (value instanceof int[] numbers) {
            numbers[0] = 7;
        } else if (value instanceof Integer number) {
            set(owner, name, name.equals("asked") ? number | 2 : number == 0 ? 1 : 0);
        }
    }
}
