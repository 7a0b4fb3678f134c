import java.util.ArrayList;
import java.util.List;
import java.util.NoSuchElementException;
import java.util.TreeSet;

/** The document once more, day by day and section by section, to compare the program with. */
public final class Model {
    private static final class Section {
        int rank;
        int issue;
        boolean says;
        Section base;
        int number;
        List<int[]> conditions = new ArrayList<>();
        List<int[]> acts = new ArrayList<>();
    }

    private static final class Told {
        int fact;
        boolean isFor;
        int weight;
        int person;
        Told from;
    }

    private static final class Row {
        int issue;
        boolean held;
        int by;
    }

    private static final class Cause {
        int number;
        int[] persons;
        int issue;
        int amount;
        int court;
        int event;
        int begun;
        Integer joined;
        boolean pleads;
        int[] standards = new int[16];
        boolean[] presumed = new boolean[16];
        boolean[] conceded = new boolean[16];
        List<Told> evidence = new ArrayList<>();
        boolean[] record;
        boolean won;
        boolean barred;
        boolean overruled;
        boolean stayed;
        int judgedOn;
        int judgedAs;
        int actsThen;
        List<Row> derivation = new ArrayList<>();
        int debt;
        int debtDay;
        int rank;
    }

    private int day;
    private int actsDone;
    private int judgments;
    private final List<Section> law = new ArrayList<>();
    private final List<int[]> spans = new ArrayList<>();
    private final List<Cause> causes = new ArrayList<>();
    private final boolean[][] privileges = new boolean[10][10];
    private final boolean[] insolvent = new boolean[10];
    private final int[] assets = new int[10];
    private final int[] limits = {100, 100, 100, 100, 100, 100, 100, 100};

    private static void argument(boolean isFine) {
        if (!isFine) {
            throw new IllegalArgumentException();
        }
    }

    private static void index(boolean isFine) {
        if (!isFine) {
            throw new IndexOutOfBoundsException();
        }
    }

    private static void supported(boolean isFine) {
        if (!isFine) {
            throw new UnsupportedOperationException();
        }
    }

    private static void state(boolean isFine) {
        if (!isFine) {
            throw new IllegalStateException();
        }
    }

    private static void element(boolean isFine) {
        if (!isFine) {
            throw new NoSuchElementException();
        }
    }

    private static boolean in(int value, int low, int high) {
        return low <= value && value <= high;
    }

    private Cause cause(int number) {
        index(in(number, 0, causes.size() - 1));
        return causes.get(number);
    }

    private Section section(int number) {
        index(in(number, 0, law.size() - 1));
        return law.get(number);
    }

    public int advance(int days) {
        argument(in(days, 1, 100));
        for (int i = 0; i < days; i++) {
            day++;
            for (Cause c : causes) {
                if (c.debt > 0 && (day - c.debtDay) % 10 == 0) {
                    c.debt += c.debt / 1000;
                }
            }
        }
        return day;
    }

    public int day() {
        return day;
    }

    public int enact(int rank, int issue, boolean says, int exceptionTo) {
        argument(in(rank, 0, 3) && in(issue, 0, 7));
        Section s = new Section();
        if (exceptionTo != -1) {
            s.base = section(exceptionTo);
            supported(s.base.issue == issue);
        }
        state(law.size() < 24);
        s.rank = rank;
        s.issue = issue;
        s.says = says;
        s.number = law.size();
        law.add(s);
        return s.number;
    }

    public int condition(int section, char kind, int number) {
        Section s = section(section);
        boolean ofIssue = kind == 'h' || kind == 'x';
        argument(ofIssue ? in(number, 0, 7) : (kind == 'f' || kind == 'n') && in(number, 0, 15));
        supported(!ofIssue || number < s.issue);
        for (int[] act : s.acts) {
            supported(act[2] == 0);
        }
        state(s.conditions.size() < 4);
        s.conditions.add(new int[] {kind, number});
        return s.conditions.size();
    }

    public int act(int section, boolean isForce, int from) {
        Section s = section(section);
        argument(in(from, 0, 9999));
        state(s.acts.size() < 8);
        s.acts.add(new int[] {day, from, isForce ? 1 : 0, ++actsDone});
        return s.acts.size();
    }

    public boolean isInForce(int section, int day, int known) {
        Section s = section(section);
        argument(day >= 0 && known >= 0);
        for (int i = s.acts.size() - 1; i >= 0; i--) {
            if (s.acts.get(i)[0] <= known && s.acts.get(i)[1] <= day) {
                return s.acts.get(i)[2] == 1;
            }
        }
        return false;
    }

    public int setLimit(int issue, int limit) {
        argument(in(issue, 0, 7) && in(limit, 0, 999));
        int before = limits[issue];
        limits[issue] = limit;
        return before;
    }

    public int toll(int one, int other, int from, int to) {
        argument(in(one, 0, 9) && in(other, 0, 9) && one != other);
        argument(in(from, 0, 9999) && in(to, from, 9999));
        state(spans.size() < 12);
        spans.add(new int[] {one, other, from, to});
        return spans.size();
    }

    public boolean setPrivilege(int person, int towards, boolean has) {
        argument(in(person, 0, 9) && in(towards, 0, 9));
        boolean before = privileges[person][towards];
        privileges[person][towards] = has;
        return before;
    }

    private static boolean isSamePair(int[] persons, int one, int other) {
        return persons[0] == one && persons[1] == other || persons[1] == one && persons[0] == other;
    }

    public int begin(int plaintiff, int defendant, int issue, int amount, int court, int event) {
        argument(in(plaintiff, 0, 9) && in(defendant, 0, 9) && plaintiff != defendant);
        argument(in(issue, 0, 7) && in(amount, 1, 99999) && in(court, 0, 2) && in(event, 0, day));
        for (Cause c : causes) {
            supported(!(isSamePair(c.persons, plaintiff, defendant) && c.issue == issue && c.event == event));
        }
        state(causes.size() < 16);
        Cause c = new Cause();
        c.number = causes.size();
        c.persons = new int[] {plaintiff, defendant};
        c.issue = issue;
        c.amount = amount;
        c.court = court;
        c.event = event;
        c.begun = day;
        java.util.Arrays.fill(c.standards, 50);
        causes.add(c);
        return c.number;
    }

    public int answer(int number, int joined, boolean pleads) {
        Cause c = cause(number);
        argument(in(joined, 0, 255));
        supported(c.joined == null && c.record == null);
        c.joined = joined;
        c.pleads = pleads;
        int waived = 0;
        for (int issue = 0; issue < 8; issue++) {
            waived += isWaived(c, issue) ? 1 : 0;
        }
        return waived;
    }

    private static boolean isWaived(Cause c, int issue) {
        return c.joined != null && c.joined / (1 << issue) % 2 == 0;
    }

    public int setStandard(int number, int fact, int standard) {
        Cause c = cause(number);
        argument(in(fact, 0, 15) && (standard == 50 || standard == 75 || standard == 95));
        supported(c.record == null);
        int before = c.standards[fact];
        c.standards[fact] = standard;
        return before;
    }

    public boolean presume(int number, int fact, boolean is) {
        Cause c = cause(number);
        argument(in(fact, 0, 15));
        supported(c.record == null);
        boolean before = c.presumed[fact];
        c.presumed[fact] = is;
        return before;
    }

    public boolean concede(int number, int fact) {
        Cause c = cause(number);
        argument(in(fact, 0, 15));
        supported(c.record == null);
        boolean before = c.conceded[fact];
        c.conceded[fact] = true;
        return !before;
    }

    public int addEvidence(int number, int fact, boolean isFor, int weight, int person, int from) {
        Cause c = cause(number);
        index(from == -1 || in(from, 0, c.evidence.size() - 1));
        argument(in(fact, 0, 15) && in(weight, 1, 99) && in(person, 0, 9));
        supported(c.record == null);
        Told told = new Told();
        told.from = from == -1 ? null : c.evidence.get(from);
        supported(told.from == null || told.from.fact == fact);
        state(c.evidence.size() < 20);
        told.fact = fact;
        told.isFor = isFor;
        told.weight = weight;
        told.person = person;
        c.evidence.add(told);
        return c.evidence.size() - 1;
    }

    private static int steps(Told told) {
        return told.from == null ? 0 : 1 + steps(told.from);
    }

    private static int counts(Told told) {
        int weight = told.weight;
        for (int i = 0; i < steps(told); i++) {
            weight /= 2;
        }
        return weight;
    }

    private boolean isAdmitted(Cause c, Told told) {
        return steps(told) <= 2 && !privileges[told.person][c.persons[told.isFor ? 1 : 0]]
                && (told.from == null || isAdmitted(c, told.from));
    }

    public boolean isAdmitted(int number, int evidence) {
        Cause c = cause(number);
        index(in(evidence, 0, c.evidence.size() - 1));
        return isAdmitted(c, c.evidence.get(evidence));
    }

    public int joined(int number, int fact, boolean isFor) {
        Cause c = cause(number);
        argument(in(fact, 0, 15));
        int left = 100;
        for (Told told : c.evidence) {
            if (told.fact == fact && told.isFor == isFor && isAdmitted(c, told)) {
                int hundredths = left * counts(told);
                left -= hundredths / 100 + (hundredths % 100 > 0 ? 1 : 0);
            }
        }
        return 100 - left;
    }

    private boolean isProven(Cause c, int fact) {
        if (c.conceded[fact]) {
            return true;
        }
        int isFor = joined(c.number, fact, true);
        int against = joined(c.number, fact, false);
        if (c.presumed[fact]) {
            return !(against - isFor >= c.standards[fact]);
        }
        return isFor - against >= c.standards[fact];
    }

    public boolean isFound(int number, int fact) {
        Cause c = cause(number);
        argument(in(fact, 0, 15));
        return c.record != null ? c.record[fact] : isProven(c, fact);
    }

    public int elapsed(int number) {
        Cause c = cause(number);
        int days = 0;
        for (int d = c.event; d < c.begun; d++) {
            boolean tolled = false;
            for (int[] span : spans) {
                tolled |= isSamePair(c.persons, span[0], span[1]) && in(d, span[2], span[3]);
            }
            days += tolled ? 0 : 1;
        }
        return days;
    }

    public boolean isLate(int number) {
        return elapsed(number) > limits[cause(number).issue];
    }

    private static boolean isInForce(Section s, int day, int acts) {
        boolean in = false;
        for (int[] act : s.acts) {
            in = act[3] <= acts && act[1] <= day ? act[2] == 1 : in;
        }
        return in;
    }

    private boolean applies(Section s, Cause c, boolean[] facts, int acts, boolean withPrecedents) {
        if (!isInForce(s, c.event, acts)) {
            return false;
        }
        for (int[] condition : s.conditions) {
            int number = condition[1];
            boolean met;
            if (condition[0] == 'f' || condition[0] == 'n') {
                met = facts[number] == (condition[0] == 'f');
            } else if (isWaived(c, number)) {
                met = s.says;
            } else {
                met = hold(number, c, facts, acts, withPrecedents).held == (condition[0] == 'h');
            }
            if (!met) {
                return false;
            }
        }
        return true;
    }

    private boolean speaks(Section s, Cause c, boolean[] facts, int acts, boolean withPrecedents) {
        if (!applies(s, c, facts, acts, withPrecedents)) {
            return false;
        }
        for (Section other : law) {
            if (other.base == s && speaks(other, c, facts, acts, withPrecedents)) {
                return false;
            }
        }
        return true;
    }

    private boolean areAlike(int issue, boolean[] one, boolean[] other) {
        for (Section s : law) {
            for (int[] condition : s.conditions) {
                boolean ofFact = condition[0] == 'f' || condition[0] == 'n';
                if (s.issue == issue && ofFact && one[condition[1]] != other[condition[1]]) {
                    return false;
                }
            }
        }
        return true;
    }

    private static boolean isStanding(Cause c) {
        return c.record != null && !c.barred && !c.overruled;
    }

    private Row hold(int issue, Cause c, boolean[] facts, int acts, boolean withPrecedents) {
        Section best = null;
        for (Section s : law) {
            if (s.issue == issue && speaks(s, c, facts, acts, withPrecedents)) {
                boolean isWorse = best != null && (s.rank < best.rank
                        || s.rank == best.rank && s.conditions.size() < best.conditions.size());
                best = isWorse ? best : s;
            }
        }
        Row row = new Row();
        row.issue = issue;
        row.held = best != null && best.says;
        row.by = best == null ? -1 : best.number;
        Cause precedent = null;
        for (Cause p : causes) {
            if (p != c && isStanding(p) && p.issue == issue && p.court >= c.court
                    && areAlike(issue, p.record, facts)) {
                boolean isWorse = precedent != null && (p.court < precedent.court
                        || p.court == precedent.court && p.judgedAs < precedent.judgedAs);
                precedent = isWorse ? precedent : p;
            }
        }
        if (withPrecedents && precedent != null && (best == null || best.rank <= 1)) {
            row.held = precedent.won;
            row.by = 100 + precedent.number;
        }
        return row;
    }

    private void ask(int issue, Cause c, int acts, TreeSet<Integer> asked) {
        asked.add(issue);
        for (Section s : law) {
            for (int[] condition : s.conditions) {
                boolean ofIssue = condition[0] == 'h' || condition[0] == 'x';
                if (s.issue == issue && ofIssue && isInForce(s, c.event, acts)
                        && !isWaived(c, condition[1]) && !asked.contains(condition[1])) {
                    ask(condition[1], c, acts, asked);
                }
            }
        }
    }

    private List<Row> derive(Cause c, int acts, boolean withPrecedents) {
        TreeSet<Integer> asked = new TreeSet<>();
        ask(c.issue, c, acts, asked);
        List<Row> rows = new ArrayList<>();
        for (int issue : asked) {
            rows.add(hold(issue, c, c.record, acts, withPrecedents));
        }
        return rows;
    }

    private void settle(Cause c) {
        c.judgedOn = day;
        c.actsThen = actsDone;
        c.derivation = c.barred ? new ArrayList<>() : derive(c, actsDone, true);
        c.won = !c.barred && c.derivation.get(c.derivation.size() - 1).held;
        c.judgedAs = ++judgments;
        c.overruled = false;
        for (Cause p : causes) {
            if (p != c && isStanding(p) && p.court <= c.court && p.issue == c.issue && p.won != c.won
                    && areAlike(c.issue, p.record, c.record)) {
                p.overruled = true;
            }
        }
    }

    public boolean judge(int number) {
        Cause c = cause(number);
        supported(c.record == null);
        supported(c.joined != null || day - c.begun >= 20);
        boolean[] facts = new boolean[16];
        for (int fact = 0; fact < 16; fact++) {
            facts[fact] = isProven(c, fact) || c.joined == null && !c.presumed[fact];
        }
        c.record = facts;
        c.barred = c.pleads && isLate(number);
        settle(c);
        c.debt = c.won ? c.amount : 0;
        c.debtDay = day;
        return c.won;
    }

    private boolean isFinal(Cause c) {
        return c.record != null && !c.stayed && (c.court == 2 || day - c.judgedOn > 30);
    }

    public int appeal(int number) {
        Cause c = cause(number);
        element(c.record != null);
        supported(!c.stayed && c.court < 2 && day - c.judgedOn <= 30);
        c.stayed = true;
        return c.persons[c.won ? 1 : 0];
    }

    public char decide(int number) {
        Cause c = cause(number);
        supported(c.stayed);
        boolean before = c.won;
        c.stayed = false;
        c.court++;
        settle(c);
        if (c.won == before) {
            return 'a';
        }
        c.debt = c.won ? c.amount : 0;
        c.debtDay = day;
        return 'r';
    }

    public char stateOf(int number) {
        Cause c = cause(number);
        if (c.record == null) {
            return c.joined == null ? 'b' : 'a';
        }
        return c.stayed ? 's' : isFinal(c) ? 'f' : 'j';
    }

    private Cause judged(int number) {
        Cause c = cause(number);
        element(c.record != null);
        return c;
    }

    public boolean outcome(int number) {
        return judged(number).won;
    }

    public int court(int number) {
        return cause(number).court;
    }

    public int rows(int number) {
        return judged(number).derivation.size();
    }

    private Row row(int number, int row) {
        Cause c = judged(number);
        element(in(row, 0, c.derivation.size() - 1));
        return c.derivation.get(row);
    }

    public int rowIssue(int number, int row) {
        return row(number, row).issue;
    }

    public boolean rowHeld(int number, int row) {
        return row(number, row).held;
    }

    public int rowBy(int number, int row) {
        return row(number, row).by;
    }

    public boolean isPrecedent(int number) {
        return isStanding(judged(number));
    }

    public boolean wouldHold(int number, int issue) {
        Cause c = cause(number);
        argument(in(issue, 0, 7));
        boolean[] facts = new boolean[16];
        for (int fact = 0; fact < 16; fact++) {
            facts[fact] = isFound(number, fact);
        }
        return hold(issue, c, facts, actsDone, true).held;
    }

    public int give(int person, int amount) {
        argument(in(person, 0, 9) && in(amount, 1, 99999));
        supported(assets[person] + amount <= 9999999);
        assets[person] += amount;
        return assets[person];
    }

    public int assets(int person) {
        argument(in(person, 0, 9));
        return assets[person];
    }

    public int debt(int number) {
        return cause(number).debt;
    }

    public int setRank(int number, int rank) {
        Cause c = cause(number);
        argument(in(rank, 0, 3));
        int before = c.rank;
        c.rank = rank;
        return before;
    }

    private void pay(Cause c, int amount) {
        c.debt -= amount;
        assets[c.persons[1]] -= amount;
        assets[c.persons[0]] += amount;
    }

    public int enforce(int number) {
        Cause c = cause(number);
        supported(isFinal(c) && !insolvent[c.persons[1]]);
        element(c.debt > 0);
        int taken = Math.min(c.debt, assets[c.persons[1]]);
        pay(c, taken);
        return taken;
    }

    public int insolvency(int person) {
        argument(in(person, 0, 9));
        supported(!insolvent[person]);
        insolvent[person] = true;
        int divided = 0;
        for (int rank = 0; rank < 4; rank++) {
            List<Cause> group = new ArrayList<>();
            long all = 0;
            for (Cause c : causes) {
                if (c.persons[1] == person && c.rank == rank && isFinal(c) && c.debt > 0) {
                    group.add(c);
                    all += c.debt;
                }
            }
            int left = assets[person];
            int[] parts = new int[group.size()];
            int given = 0;
            for (int i = 0; i < parts.length; i++) {
                int debt = group.get(i).debt;
                parts[i] = all <= left ? debt : (int) ((long) left * debt / all);
                given += parts[i];
            }
            for (int i = 0; all > left && given < left; i++) {
                parts[i]++;
                given++;
            }
            for (int i = 0; i < parts.length; i++) {
                pay(group.get(i), parts[i]);
            }
            divided += given;
        }
        return divided;
    }

    public int sections() {
        return law.size();
    }

    public int cases() {
        return causes.size();
    }

    public long wealth() {
        long sum = 0;
        for (Cause c : causes) {
            sum += c.debt;
        }
        for (int i = 0; i < 10; i++) {
            sum += assets[i];
        }
        return sum;
    }

    private int countJudged() {
        int judged = 0;
        for (Cause c : causes) {
            judged += c.record != null ? 1 : 0;
        }
        if (judged == 0) {
            throw new ArithmeticException();
        }
        return judged;
    }

    public float wonShare() {
        int judged = countJudged();
        int won = 0;
        for (Cause c : causes) {
            won += c.won ? 1 : 0;
        }
        return (float) won / (float) judged;
    }

    public double meanRows() {
        int judged = countJudged();
        int rows = 0;
        for (Cause c : causes) {
            rows += c.derivation.size();
        }
        return (double) rows / (double) judged;
    }

    public boolean isSound() {
        return true;
    }
}
