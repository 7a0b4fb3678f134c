/** The sentences on assets, debts, enforcement and insolvency that name a boundary, each with a test of its own. */
public final class BoundaryDebtTest {
    public static void main(String[] args) {
        noAssetsAtFirst();
        amountsGiven();
        greatestAssets();
        takenAboveTheGreatest();
        debtFromItsDay();
        noDebt();
        tenDays();
        ofTheDebtAsItIsThen();
        roundedDown();
        manyDaysAtOnce();
        longestLife();
        stayedDebtGrows();
        affirmedLeavesTheDebt();
        reversedMakesTheDebt();
        upToTheDebt();
        finalJudgmentsAlone();
        paidInFull();
        ranksOfCases();
        lowerRanksAhead();
        justSufficing();
        sharesAndRemainder();
        greatestRemainder();
        remainderForDebtsAlone();
        leastDebts();
        greatestDebts();
        finalDebtsAlone();
        emptyInsolvency();
        insolventOnce();
        nothingIsEnforcedAnyMore();
        wealthOfAll();
        Check.end();
    }

    private static void noAssetsAtFirst() {
        Check.sentence("no one has assets");
        Courtyard x = new Courtyard();
        for (int person = 0; person < 10; person++) {
            Check.same("35: person " + person, x.assets(person), 0);
        }
        Check.same("42: nothing", x.wealth(), 0);
    }

    private static void amountsGiven() {
        Check.sentence("- `amount`: the amount, 1 to 99999");
        Courtyard x = new Courtyard();
        Check.same("34: 1", x.give(0, 1), 1);
        Check.same("34: 99999", x.give(0, 99999), 100000);
        Check.same("34: person 9", x.give(9, 2), 2);
        for (int amount : new int[] {0, -1, 100000, Integer.MIN_VALUE, Integer.MAX_VALUE}) {
            Check.fails("34: " + amount, Check.ARGUMENT, () -> x.give(0, amount));
        }
        Check.same("35: unchanged", x.assets(0), 100000);
    }

    private static void greatestAssets() {
        Check.sentence("Throws `UnsupportedOperationException` if the assets would be greater than 9999999");
        Courtyard x = new Courtyard();
        Setup.giveAll(x, 0, 9999998);
        Check.fails("34: 10000000", Check.UNSUPPORTED, () -> x.give(0, 2));
        Check.fails("34: much more", Check.UNSUPPORTED, () -> x.give(0, 99999));
        Check.same("34: 9999999", x.give(0, 1), 9999999);
        Check.fails("34: 1 more", Check.UNSUPPORTED, () -> x.give(0, 1));
        Check.fails("34: the amount is looked at first", Check.ARGUMENT, () -> x.give(0, 100000));
        Check.same("35: unchanged", x.assets(0), 9999999);
        Check.same("34: another person", x.give(1, 1), 1);
    }

    private static void takenAboveTheGreatest() {
        Check.sentence("takes from the assets of the defendant, up to the debt, to those of the plaintiff");
        Courtyard x = Setup.always();
        Setup.giveAll(x, 0, 9999999);
        Setup.judged(x, 0, 1, 0, 99999, 2, 0);
        x.give(1, 99999);
        Check.same("38: taken", x.enforce(0), 99999);
        Check.same("35: above what can be given", x.assets(0), 10099998);
        Check.fails("34: no more is given", Check.UNSUPPORTED, () -> x.give(0, 1));
        Check.same("42: nothing is lost", x.wealth(), 10099998);
    }

    private static void debtFromItsDay() {
        Check.sentence("A judgment for the plaintiff makes the case's debt: its amount, from its day on");
        Courtyard x = Setup.always();
        Setup.answered(x, 0, 1, 0, 1000, 0, 0);
        x.advance(15);
        Check.same("36: not judged", x.debt(0), 0);
        x.judge(0);
        Check.same("36: on its day", x.debt(0), 1000);
        x.advance(9);
        Check.same("36: days ahead of the judgment don't count", x.debt(0), 1000);
        x.advance(1);
        Check.same("36: 10 days", x.debt(0), 1001);
    }

    private static void noDebt() {
        Check.sentence("Returns the debt, 0 without one.");
        Courtyard x = Setup.withCase(0);
        Check.same("36: begun", x.debt(0), 0);
        x.answer(0, 255, false);
        x.judge(0);
        Check.same("36: against the plaintiff", x.debt(0), 0);
        x.advance(100);
        Check.same("36: nothing grows", x.debt(0), 0);
        Check.fails("38: no debt", Check.NONE, () -> x.enforce(0));
        Check.fails("36: no such case", Check.INDEX, () -> x.debt(1));
        Check.fails("36: case -1", Check.INDEX, () -> x.debt(-1));
    }

    private static void tenDays() {
        Check.sentence("Behind each 10 days");
        Courtyard x = Setup.always();
        x.advance(7);
        Setup.judged(x, 0, 1, 0, 50000, 0, 0);
        int[] due = {50000, 50050, 50100, 50150};
        for (int day = 1; day <= 30; day++) {
            x.advance(1);
            Check.same("36: day " + day, x.debt(0), due[day / 10]);
        }
    }

    private static void ofTheDebtAsItIsThen() {
        Check.sentence("of the debt as it is then, 1 of 1000, rounded down, is added");
        Courtyard x = Setup.always();
        Setup.judged(x, 0, 1, 0, 10000, 2, 0);
        x.advance(9);
        x.give(1, 8000);
        x.enforce(0);
        x.advance(1);
        Check.same("36: of what is left", x.debt(0), 2002);
        x.give(1, 1002);
        x.enforce(0);
        x.advance(9);
        Check.same("36: 9 days", x.debt(0), 1000);
        x.advance(1);
        Check.same("36: 10 days behind the last interest, not behind the payment", x.debt(0), 1001);
    }

    private static void roundedDown() {
        Check.sentence("1 of 1000, rounded down, is added");
        int[] amounts = {1, 999, 1000, 1001, 1999, 2000, 99999};
        int[] due = {1, 999, 1001, 1002, 2000, 2002, 100098};
        for (int i = 0; i < amounts.length; i++) {
            Courtyard x = Setup.always();
            Setup.judged(x, 0, 1, 0, amounts[i], 0, 0);
            x.advance(10);
            Check.same("36: " + amounts[i], x.debt(0), due[i]);
        }
    }

    private static void manyDaysAtOnce() {
        Check.sentence("Lets days go by.");
        Courtyard x = Setup.always();
        Courtyard y = Setup.always();
        Setup.judged(x, 0, 1, 0, 99999, 0, 0);
        Setup.judged(y, 0, 1, 0, 99999, 0, 0);
        x.advance(100);
        for (int i = 0; i < 100; i++) {
            y.advance(1);
        }
        Check.same("36: a hundred days at once, and each alone", x.debt(0), y.debt(0));
        x.advance(99);
        Check.same("36: 199 days", x.debt(0), grown(99999, 19));
        x.advance(1);
        Check.same("36: 200 days", x.debt(0), grown(99999, 20));
    }

    private static int grown(int debt, int times) {
        int grown = debt;
        for (int i = 0; i < times; i++) {
            grown += grown / 1000;
        }
        return grown;
    }

    private static void longestLife() {
        Check.sentence("of the debt as it is then");
        Courtyard x = Setup.always();
        for (int i = 1; i < 10; i++) {
            Setup.judged(x, i, 0, 0, 99999, 2, 0);
        }
        for (int i = 0; i < 450; i++) {
            x.advance(100);
        }
        int due = grown(99999, 4500);
        Check.same("36: after 45000 days", x.debt(8), due);
        Check.same("42: nine of them", x.wealth(), 9L * due);
        x.give(0, 99999);
        Check.same("39: far too little", x.insolvency(0), 99999);
        Check.same("35: a ninth, none is left over", x.assets(1), 11111);
        Check.same("35: a ninth for the last one", x.assets(9), 11111);
    }

    private static void stayedDebtGrows() {
        Check.sentence("from its day on, also while the case is stayed");
        Courtyard x = Setup.always();
        Setup.judged(x, 0, 1, 0, 1000, 0, 0);
        x.appeal(0);
        x.advance(9);
        Check.same("36: 9 days", x.debt(0), 1000);
        x.advance(1);
        Check.same("36: 10 days", x.debt(0), 1001);
        x.advance(100);
        Check.same("36: 110 days", x.debt(0), 1011);
    }

    private static void affirmedLeavesTheDebt() {
        Check.sentence("an affirmed one leaves the debt as it is");
        Courtyard x = Setup.always();
        Setup.judged(x, 0, 1, 0, 1000, 0, 0);
        x.advance(15);
        x.appeal(0);
        x.decide(0);
        Check.same("36: with its interest", x.debt(0), 1001);
        x.advance(4);
        Check.same("36: the 19th day", x.debt(0), 1001);
        x.advance(1);
        Check.same("36: the 20th day of the first judgment", x.debt(0), 1002);
        Courtyard y = new Courtyard();
        Setup.judged(y, 0, 1, 0, 1000, 0, 0);
        y.appeal(0);
        y.decide(0);
        Check.same("36: without a debt there is none", y.debt(0), 0);
    }

    private static void reversedMakesTheDebt() {
        Check.sentence("a reversed one makes it from its own day on, or takes it away");
        Courtyard x = Setup.always();
        x.act(0, false, 0);
        Setup.judged(x, 0, 1, 0, 1000, 0, 0);
        x.advance(5);
        x.appeal(0);
        x.act(0, true, 0);
        x.decide(0);
        Check.same("36: made", x.debt(0), 1000);
        x.advance(9);
        Check.same("36: 9 days of its own", x.debt(0), 1000);
        x.advance(1);
        Check.same("36: 10 days of its own", x.debt(0), 1001);
        x.appeal(0);
        x.act(0, false, 0);
        x.decide(0);
        Check.same("36: taken away", x.debt(0), 0);
        Check.fails("38: no debt", Check.NONE, () -> x.enforce(0));
    }

    private static void upToTheDebt() {
        Check.sentence("Enforcing a final judgment takes from the assets of the defendant, up to the debt");
        for (int assets : new int[] {0, 1, 99, 100, 101}) {
            Courtyard x = Setup.always();
            Setup.judged(x, 0, 1, 0, 100, 2, 0);
            Setup.giveAll(x, 1, assets);
            int taken = Math.min(assets, 100);
            Check.same("38: of " + assets, x.enforce(0), taken);
            Check.same("36: of " + assets, x.debt(0), 100 - taken);
            Check.same("35: the defendant, of " + assets, x.assets(1), assets - taken);
            Check.same("35: the plaintiff, of " + assets, x.assets(0), taken);
        }
    }

    private static void finalJudgmentsAlone() {
        Check.sentence("Throws `UnsupportedOperationException` if it is not final, or the defendant is insolvent");
        Courtyard x = Setup.always();
        x.give(1, 5);
        x.begin(0, 1, 0, 100, 0, 0);
        Check.fails("38: begun", Check.UNSUPPORTED, () -> x.enforce(0));
        x.answer(0, 255, false);
        Check.fails("38: answered", Check.UNSUPPORTED, () -> x.enforce(0));
        x.judge(0);
        Check.fails("38: judged", Check.UNSUPPORTED, () -> x.enforce(0));
        x.advance(30);
        Check.fails("38: the 30th day", Check.UNSUPPORTED, () -> x.enforce(0));
        x.advance(1);
        Check.same("38: the 31st day", x.enforce(0), 5);
        x.insolvency(1);
        Check.fails("38: insolvent", Check.UNSUPPORTED, () -> x.enforce(0));
        Courtyard y = Setup.always();
        y.insolvency(0);
        Setup.judged(y, 0, 1, 0, 100, 2, 0);
        y.give(1, 7);
        Check.same("38: the plaintiff may be insolvent", y.enforce(0), 7);
    }

    private static void paidInFull() {
        Check.sentence("Throws `NoSuchElementException` if there is no debt");
        Courtyard x = Setup.always();
        Setup.judged(x, 0, 1, 0, 1, 2, 0);
        Check.same("38: no assets, but a debt", x.enforce(0), 0);
        x.give(1, 2);
        Check.same("38: paid", x.enforce(0), 1);
        Check.fails("38: no debt any more", Check.NONE, () -> x.enforce(0));
        Check.same("35: the rest", x.assets(1), 1);
        x.begin(0, 1, 1, 1, 0, 0);
        Check.fails("38: neither final nor a debt", Check.UNSUPPORTED, () -> x.enforce(1));
    }

    private static void ranksOfCases() {
        Check.sentence("by the ranks of cases, 0 to 3, 0 at first");
        Courtyard x = Setup.withCase(0);
        Check.same("37: 0 at first", x.setRank(0, 3), 0);
        Check.same("37: 3 then", x.setRank(0, 0), 3);
        Check.same("37: 0 then", x.setRank(0, 0), 0);
        for (int rank : new int[] {-1, 4, Integer.MIN_VALUE, Integer.MAX_VALUE}) {
            Check.fails("37: rank " + rank, Check.ARGUMENT, () -> x.setRank(0, rank));
        }
        x.answer(0, 255, false);
        x.judge(0);
        Check.same("37: judged", x.setRank(0, 2), 0);
        x.advance(31);
        Check.same("37: final", x.setRank(0, 1), 2);
    }

    private static void lowerRanksAhead() {
        Check.sentence("lower ones ahead");
        for (int assets : new int[] {0, 9, 10, 11, 20, 21, 30, 39, 40, 41}) {
            Courtyard x = Setup.always();
            for (int i = 0; i < 4; i++) {
                Setup.judged(x, i + 1, 0, 0, 10, 2, 0);
                x.setRank(i, 3 - i);
            }
            Setup.giveAll(x, 0, assets);
            Check.same("39: of " + assets, x.insolvency(0), Math.min(assets, 40));
            for (int i = 0; i < 4; i++) {
                int paid = Math.max(0, Math.min(10, assets - 10 * (3 - i)));
                Check.same("35: rank " + (3 - i) + " of " + assets, x.assets(i + 1), paid);
                Check.same("36: rank " + (3 - i) + " of " + assets, x.debt(i), 10 - paid);
            }
            Check.same("35: what is left of " + assets, x.assets(0), Math.max(0, assets - 40));
        }
    }

    private static void justSufficing() {
        Check.sentence("in a rank, if they do not suffice");
        for (int assets = 29; assets <= 31; assets++) {
            Courtyard x = Setup.always();
            Setup.judged(x, 1, 0, 0, 20, 2, 0);
            Setup.judged(x, 2, 0, 0, 10, 2, 0);
            x.give(0, assets);
            Check.same("39: of " + assets, x.insolvency(0), Math.min(assets, 30));
            Check.same("35: 29 * 20 / 30 is 19, and 1 of 1", x.assets(1), 20);
            Check.same("35: 29 * 10 / 30 is 9", x.assets(2), assets == 29 ? 9 : 10);
            Check.same("35: what is left of " + assets, x.assets(0), assets == 31 ? 1 : 0);
        }
    }

    private static void sharesAndRemainder() {
        Check.sentence("each gets the assets that are left times its debt, divided by all debts of the rank, rounded down,"
                + " and what remains is given by 1 to those with the lowest numbers");
        Courtyard x = Setup.always();
        int[] debts = {7, 5, 3, 1};
        for (int i = 0; i < 4; i++) {
            Setup.judged(x, i + 1, 0, 0, debts[i], 2, 0);
        }
        x.give(0, 10);
        x.insolvency(0);
        int[] due = {4 + 1, 3 + 1, 1, 0};
        for (int i = 0; i < 4; i++) {
            Check.same("35: of a debt of " + debts[i], x.assets(i + 1), due[i]);
        }
        Courtyard y = Setup.always();
        Setup.judged(y, 1, 0, 0, 5, 2, 0);
        Setup.judged(y, 2, 0, 0, 5, 2, 0);
        Setup.judged(y, 3, 0, 0, 4, 2, 0);
        y.setRank(0, 3);
        y.setRank(1, 2);
        y.setRank(2, 2);
        y.give(0, 8);
        y.insolvency(0);
        Check.same("35: the lowest number of the rank, not of all", y.assets(2), 5);
        Check.same("35: 8 * 4 / 9", y.assets(3), 3);
        Check.same("35: a later rank", y.assets(1), 0);
    }

    private static void greatestRemainder() {
        Check.sentence("what remains is given by 1 to those with the lowest numbers");
        for (int assets = 0; assets <= 15; assets++) {
            Courtyard x = Setup.always();
            Setup.law(x, 3, 1, true, -1, "");
            for (int i = 0; i < 15; i++) {
                Setup.judged(x, i % 9 + 1, 0, i / 9, 1, 2, 0);
            }
            Setup.giveAll(x, 0, assets);
            Check.same("39: of 15 debts of 1", x.insolvency(0), assets);
            for (int i = 0; i < 15; i++) {
                Check.same("36: " + assets + " for the case " + i, x.debt(i), i < assets ? 0 : 1);
            }
        }
    }

    private static void remainderForDebtsAlone() {
        Check.sentence("those with the lowest numbers");
        Courtyard x = Setup.always();
        Setup.judged(x, 1, 0, 1, 5, 2, 0);
        Setup.judged(x, 2, 0, 0, 5, 2, 0);
        Setup.judged(x, 3, 4, 0, 5, 2, 0);
        Setup.judged(x, 5, 0, 0, 5, 1, 0);
        Setup.judged(x, 6, 0, 0, 5, 2, 0);
        Setup.judged(x, 7, 0, 0, 5, 2, 0);
        x.give(0, 5);
        x.enforce(1);
        x.give(0, 5);
        Check.same("39: 2 and 2, and 1 remains", x.insolvency(0), 5);
        int[] due = {0, 0, 5, 5, 2, 3};
        for (int i = 0; i < due.length; i++) {
            Check.same("36: lost, paid, another's, not final, and two that share, " + i, x.debt(i), due[i]);
        }
        Check.same("35: nothing for the one who lost", x.assets(1), 0);
        Check.same("35: no more for the one who was paid", x.assets(2), 5);
    }

    private static void leastDebts() {
        Check.sentence("the assets of a person are divided among the final debts of this person");
        Courtyard x = Setup.always();
        Setup.judged(x, 1, 0, 0, 1, 2, 0);
        x.give(0, 5);
        Check.same("39: one debt of 1", x.insolvency(0), 1);
        Check.same("35: paid", x.assets(1), 1);
        Check.same("35: the rest stays", x.assets(0), 4);
    }

    private static void greatestDebts() {
        Check.sentence("the assets that are left times its debt");
        Courtyard x = Setup.always();
        for (int i = 1; i < 10; i++) {
            Setup.judged(x, i, 0, 0, 99999, 2, 0);
        }
        for (int i = 0; i < 300; i++) {
            x.advance(100);
        }
        int debt = grown(99999, 3000);
        Setup.giveAll(x, 0, 9999998);
        Check.same("39: all", x.insolvency(0), 9999998);
        int share = (int) (9999998L * debt / (9L * debt));
        int rest = 9999998 - 9 * share;
        for (int i = 1; i < 10; i++) {
            Check.same("35: person " + i, x.assets(i), share + (i <= rest ? 1 : 0));
        }
    }

    private static void finalDebtsAlone() {
        Check.sentence("divided among the final debts of this person");
        Courtyard x = Setup.always();
        Setup.judged(x, 1, 0, 0, 10, 2, 0);
        Setup.judged(x, 2, 0, 0, 10, 1, 0);
        Setup.judged(x, 3, 0, 0, 10, 1, 0);
        Setup.judged(x, 0, 4, 0, 10, 2, 0);
        Setup.judged(x, 5, 6, 0, 10, 2, 0);
        x.appeal(2);
        x.advance(30);
        x.give(0, 100);
        Check.same("39: one is final", x.insolvency(0), 10);
        int[] due = {0, 10, 10, 10, 10};
        for (int i = 0; i < 5; i++) {
            Check.same("36: case " + i, x.debt(i), due[i]);
        }
        Courtyard y = Setup.always();
        Setup.judged(y, 1, 0, 0, 10, 1, 0);
        y.advance(31);
        y.give(0, 100);
        Check.same("39: final from the 31st day on", y.insolvency(0), 10);
    }

    private static void emptyInsolvency() {
        Check.sentence("Returns how much was divided.");
        Courtyard x = Setup.always();
        Check.same("39: neither assets nor debts", x.insolvency(0), 0);
        x.give(1, 5);
        Check.same("39: no debts", x.insolvency(1), 0);
        Check.same("35: the assets stay", x.assets(1), 5);
        Setup.judged(x, 3, 2, 0, 5, 2, 0);
        Check.same("39: no assets", x.insolvency(2), 0);
        Check.same("36: the debt stays", x.debt(0), 5);
        Check.same("35: nothing is paid", x.assets(3), 0);
    }

    private static void insolventOnce() {
        Check.sentence("Throws `UnsupportedOperationException` if the person is insolvent");
        Courtyard x = new Courtyard();
        for (int person = 0; person < 10; person++) {
            int same = person;
            Check.same("39: person " + person, x.insolvency(person), 0);
            Check.fails("39: person " + person + " again", Check.UNSUPPORTED, () -> x.insolvency(same));
        }
        Check.fails("39: person 10", Check.ARGUMENT, () -> x.insolvency(10));
        Check.fails("39: person -1", Check.ARGUMENT, () -> x.insolvency(-1));
    }

    private static void nothingIsEnforcedAnyMore() {
        Check.sentence("nothing is enforced against this person any more, later debts included");
        Courtyard x = Setup.always();
        Setup.judged(x, 1, 0, 0, 10, 2, 0);
        x.give(0, 4);
        x.insolvency(0);
        x.give(0, 100);
        Check.fails("38: what is left of a debt", Check.UNSUPPORTED, () -> x.enforce(0));
        Setup.judged(x, 2, 0, 0, 10, 2, 0);
        Check.same("36: a later debt", x.debt(1), 10);
        Check.fails("38: a later debt", Check.UNSUPPORTED, () -> x.enforce(1));
        Check.fails("39: nor divided again", Check.UNSUPPORTED, () -> x.insolvency(0));
        Check.same("35: all stays", x.assets(0), 100);
        Setup.judged(x, 0, 3, 0, 3, 2, 0);
        x.give(3, 3);
        Check.same("38: others still pay", x.enforce(2), 3);
        x.advance(100);
        Check.same("36: less than 1000 does not grow", x.debt(0), 6);
    }

    private static void wealthOfAll() {
        Check.sentence("Returns the sum of all debts and assets.");
        Courtyard x = Setup.always();
        Setup.judged(x, 1, 0, 0, 99999, 0, 0);
        Setup.judged(x, 2, 0, 0, 1, 2, 0);
        Check.same("42: debts, final or not", x.wealth(), 100000);
        x.appeal(0);
        Check.same("42: stayed too", x.wealth(), 100000);
        x.give(0, 1);
        x.give(9, 1);
        Check.same("42: the first and the last person", x.wealth(), 100002);
        x.enforce(1);
        Check.same("42: a debt that is paid", x.wealth(), 100001);
    }
}
