import java.util.ArrayList;
import java.util.Arrays;
import java.util.NoSuchElementException;

/** A legal order that runs: law by days, facts by evidence, cases, judgments and debts. */
public final class Courtyard {
    private static final int PERSONS = 10;
    private static final int FACTS = 16;
    private static final int ISSUES = 8;
    private static final int ALL_FACTS = 65535;
    private static final int ALL_ISSUES = 255;
    private static final int MAX_RANK = 3;
    private static final int MAX_SECTIONS = 24;
    private static final int MAX_CONDITIONS = 4;
    private static final int MAX_ACTS = 8;
    private static final int LAST_DAY = 9999;
    private static final int MAX_ADVANCE = 100;
    private static final int FIRST_LIMIT = 100;
    private static final int MAX_LIMIT = 999;
    private static final int MAX_SPANS = 12;
    private static final int MAX_CASES = 16;
    private static final int MAX_AMOUNT = 99999;
    private static final int MAX_ASSETS = 9999999;
    private static final int HIGHEST_COURT = 2;
    private static final int DEFAULT_DAYS = 20;
    private static final int APPEAL_DAYS = 30;
    private static final int FIRST_STANDARD = 50;
    private static final int MAX_WEIGHT = 99;
    private static final int MAX_EVIDENCE = 20;
    private static final int MAX_STEPS = 2;
    private static final int MAX_RANK_UNDER_PRECEDENT = 1;
    private static final int PRECEDENT_BASE = 100;
    private static final int INTEREST_DAYS = 10;
    private static final int INTEREST_PART = 1000;

    private int today;
    private int judgmentsMade;
    private int insolvents;
    private final int[] limits = new int[ISSUES];
    private final int[] purses = new int[PERSONS];
    private final Privileges privileges = new Privileges();
    private final ArrayList<Span> spans = new ArrayList<>();
    private final Law law = new Law();
    private final ArrayList<Suit> docket = new ArrayList<>();
    private final ArrayList<Suit> noCases = new ArrayList<>();

    public Courtyard() {
        Arrays.fill(limits, FIRST_LIMIT);
    }

    public int advance(int days) throws IllegalArgumentException {
        if (!isWithin(days, 1, MAX_ADVANCE)) {
            throw new IllegalArgumentException("no such number of days");
        }
        today += days;
        for (int i = 0; i < docket.size(); i++) {
            docket.get(i).debt.growUpTo(today);
        }
        return today;
    }

    public int day() {
        return today;
    }

    public int enact(int rank, int issue, boolean says, int exceptionTo)
            throws IllegalArgumentException, IndexOutOfBoundsException, UnsupportedOperationException,
            IllegalStateException {
        if (!isWithin(rank, 0, MAX_RANK) || !isIssue(issue)) {
            throw new IllegalArgumentException("no such rank or issue");
        }
        if (exceptionTo != -1) {
            if (sectionAt(exceptionTo).issue != issue) {
                throw new UnsupportedOperationException("that section has another issue");
            }
        }
        if (law.sections.size() >= MAX_SECTIONS) {
            throw new IllegalStateException("no more sections");
        }
        return law.enter(new Section(rank, issue, says, exceptionTo));
    }

    public int condition(int section, char kind, int number)
            throws IndexOutOfBoundsException, IllegalArgumentException, UnsupportedOperationException,
            IllegalStateException {
        Section changed = sectionAt(section);
        boolean asksIssue = kind == 'h' || kind == 'x';
        boolean asksFact = kind == 'f' || kind == 'n';
        if (!(asksFact && isFact(number)) && !(asksIssue && isIssue(number))) {
            throw new IllegalArgumentException("no such kind, fact or issue");
        }
        if (asksIssue && number >= changed.issue || changed.wasPutInForce()) {
            throw new UnsupportedOperationException("the issue is not lower, or the section was in force");
        }
        if (changed.conditions >= MAX_CONDITIONS) {
            throw new IllegalStateException("no more conditions");
        }
        return changed.require(kind, number);
    }

    public int act(int section, boolean isForce, int from)
            throws IndexOutOfBoundsException, IllegalArgumentException, IllegalStateException {
        Section changed = sectionAt(section);
        if (!isWithin(from, 0, LAST_DAY)) {
            throw new IllegalArgumentException("no such day");
        }
        if (changed.acts.size() >= MAX_ACTS) {
            throw new IllegalStateException("no more acts");
        }
        changed.acts.add(new Act(law.actsDone, today, from, isForce));
        law.actsDone++;
        return changed.acts.size();
    }

    public boolean isInForce(int section, int day, int known)
            throws IndexOutOfBoundsException, IllegalArgumentException {
        Section asked = sectionAt(section);
        if (day < 0 || known < 0) {
            throw new IllegalArgumentException("no such day");
        }
        return asked.standsByDay(day, known);
    }

    public int setLimit(int issue, int limit) throws IllegalArgumentException {
        if (!isIssue(issue) || !isWithin(limit, 0, MAX_LIMIT)) {
            throw new IllegalArgumentException("no such issue or limit");
        }
        int before = limits[issue];
        limits[issue] = limit;
        return before;
    }

    public int toll(int one, int other, int from, int to)
            throws IllegalArgumentException, IllegalStateException {
        if (!isPerson(one) || !isPerson(other) || one == other) {
            throw new IllegalArgumentException("no such two persons");
        }
        if (!isWithin(from, 0, LAST_DAY) || !isWithin(to, from, LAST_DAY)) {
            throw new IllegalArgumentException("no such days");
        }
        if (spans.size() >= MAX_SPANS) {
            throw new IllegalStateException("no more spans");
        }
        spans.add(new Span(one, other, from, to));
        return spans.size();
    }

    public boolean setPrivilege(int person, int towards, boolean has) throws IllegalArgumentException {
        if (!isPerson(person) || !isPerson(towards)) {
            throw new IllegalArgumentException("no such person");
        }
        boolean before = privileges.stands(person, towards);
        privileges.put(person, towards, has);
        return before;
    }

    public int begin(int plaintiff, int defendant, int issue, int amount, int court, int event)
            throws IllegalArgumentException, UnsupportedOperationException, IllegalStateException {
        if (!isPerson(plaintiff) || !isPerson(defendant) || plaintiff == defendant) {
            throw new IllegalArgumentException("no such two persons");
        }
        if (!isIssue(issue) || !isWithin(amount, 1, MAX_AMOUNT)
                || !isWithin(court, 0, HIGHEST_COURT) || !isWithin(event, 0, today)) {
            throw new IllegalArgumentException("no such issue, amount, court or event");
        }
        if (isBarredAmong(docket.size(), plaintiff, defendant, issue, event)) {
            throw new UnsupportedOperationException("another case bars it");
        }
        if (docket.size() >= MAX_CASES) {
            throw new IllegalStateException("no more cases");
        }
        docket.add(new Suit(plaintiff, defendant, issue, amount, court, event, today));
        return docket.size() - 1;
    }

    public int answer(int number, int joined, boolean pleads)
            throws IndexOutOfBoundsException, IllegalArgumentException, UnsupportedOperationException {
        Suit suit = suitAt(number);
        if (!isWithin(joined, 0, ALL_ISSUES)) {
            throw new IllegalArgumentException("no such sum");
        }
        if (suit.isAnswered || suit.judgment.isMade) {
            throw new UnsupportedOperationException("it is answered or judged");
        }
        suit.isAnswered = true;
        suit.waived = ALL_ISSUES & ~joined;
        suit.pleadsLimit = pleads;
        return Integer.bitCount(suit.waived);
    }

    public int setStandard(int number, int fact, int standard)
            throws IndexOutOfBoundsException, IllegalArgumentException, UnsupportedOperationException {
        Suit suit = suitAt(number);
        if (!isFact(fact) || standard != 50 && standard != 75 && standard != 95) {
            throw new IllegalArgumentException("no such fact or standard");
        }
        requireUnjudged(suit);
        int before = suit.proof.standards[fact];
        suit.proof.standards[fact] = standard;
        return before;
    }

    public boolean presume(int number, int fact, boolean is)
            throws IndexOutOfBoundsException, IllegalArgumentException, UnsupportedOperationException {
        Suit suit = suitAt(number);
        requireFact(fact);
        requireUnjudged(suit);
        boolean before = hasBit(suit.proof.presumed, fact);
        suit.proof.presumed = withBit(suit.proof.presumed, fact, is);
        return before;
    }

    public boolean concede(int number, int fact)
            throws IndexOutOfBoundsException, IllegalArgumentException, UnsupportedOperationException {
        Suit suit = suitAt(number);
        requireFact(fact);
        requireUnjudged(suit);
        boolean before = hasBit(suit.proof.conceded, fact);
        suit.proof.conceded = withBit(suit.proof.conceded, fact, true);
        return !before;
    }

    public int addEvidence(int number, int fact, boolean isFor, int weight, int person, int from)
            throws IndexOutOfBoundsException, IllegalArgumentException, UnsupportedOperationException,
            IllegalStateException {
        Suit suit = suitAt(number);
        ArrayList<Evidence> evidence = suit.proof.evidence;
        if (!isWithin(from, -1, evidence.size() - 1)) {
            throw new IndexOutOfBoundsException("no such evidence");
        }
        if (!isFact(fact) || !isWithin(weight, 1, MAX_WEIGHT) || !isPerson(person)) {
            throw new IllegalArgumentException("no such fact, weight or person");
        }
        requireUnjudged(suit);
        int steps = 0;
        if (from >= 0) {
            Evidence teller = evidence.get(from);
            if (teller.fact != fact) {
                throw new UnsupportedOperationException("that evidence is on another fact");
            }
            steps = teller.steps + 1;
        }
        if (evidence.size() >= MAX_EVIDENCE) {
            throw new IllegalStateException("no more evidence");
        }
        evidence.add(new Evidence(fact, isFor, weight, person, from, steps));
        return evidence.size() - 1;
    }

    public boolean isAdmitted(int number, int evidence) throws IndexOutOfBoundsException {
        Suit suit = suitAt(number);
        if (!isWithin(evidence, 0, suit.proof.evidence.size() - 1)) {
            throw new IndexOutOfBoundsException("no such evidence");
        }
        return suit.proof.admits(evidence, privileges);
    }

    public int joined(int number, int fact, boolean isFor)
            throws IndexOutOfBoundsException, IllegalArgumentException {
        Suit suit = suitAt(number);
        requireFact(fact);
        return suit.proof.weightOf(fact, isFor, privileges);
    }

    public boolean isFound(int number, int fact) throws IndexOutOfBoundsException, IllegalArgumentException {
        Suit suit = suitAt(number);
        requireFact(fact);
        return hasBit(factsIn(suit), fact);
    }

    public int elapsed(int number) throws IndexOutOfBoundsException {
        return daysCounted(suitAt(number));
    }

    public boolean isLate(int number) throws IndexOutOfBoundsException {
        return isOutOfTime(suitAt(number));
    }

    public boolean judge(int number) throws IndexOutOfBoundsException, UnsupportedOperationException {
        Suit suit = suitAt(number);
        requireUnjudged(suit);
        if (!suit.isAnswered && today < suit.begun + DEFAULT_DAYS) {
            throw new UnsupportedOperationException("it is not answered, and no default yet");
        }
        int facts = suit.proof.provenFacts(privileges);
        if (!suit.isAnswered) {
            facts |= ALL_FACTS & ~suit.proof.presumed;
        }
        boolean isBarred = suit.pleadsLimit && isOutOfTime(suit);
        pass(suit, facts, isBarred);
        if (suit.judgment.isWon) {
            suit.debt.make(suit.amount, today);
        }
        return suit.judgment.isWon;
    }

    public int appeal(int number)
            throws IndexOutOfBoundsException, NoSuchElementException, UnsupportedOperationException {
        Suit suit = judgedSuitAt(number);
        if (suit.isStayed || isFinal(suit)) {
            throw new UnsupportedOperationException("it is stayed or final");
        }
        suit.isStayed = true;
        return suit.judgment.isWon ? suit.defendant : suit.plaintiff;
    }

    public char decide(int number) throws IndexOutOfBoundsException, UnsupportedOperationException {
        Suit suit = suitAt(number);
        if (!suit.isStayed) {
            throw new UnsupportedOperationException("it is not stayed");
        }
        boolean before = suit.judgment.isWon;
        suit.isStayed = false;
        suit.court++;
        pass(suit, suit.judgment.record, suit.judgment.isBarred);
        if (suit.judgment.isWon == before) {
            return 'a';
        }
        suit.debt.make(suit.judgment.isWon ? suit.amount : 0, today);
        return 'r';
    }

    public char stateOf(int number) throws IndexOutOfBoundsException {
        Suit suit = suitAt(number);
        if (!suit.judgment.isMade) {
            return suit.isAnswered ? 'a' : 'b';
        }
        if (suit.isStayed) {
            return 's';
        }
        return isFinal(suit) ? 'f' : 'j';
    }

    public boolean outcome(int number) throws IndexOutOfBoundsException, NoSuchElementException {
        return judgedSuitAt(number).judgment.isWon;
    }

    public int court(int number) throws IndexOutOfBoundsException {
        return suitAt(number).court;
    }

    public int rows(int number) throws IndexOutOfBoundsException, NoSuchElementException {
        return judgedSuitAt(number).judgment.rowCount();
    }

    public int rowIssue(int number, int row) throws IndexOutOfBoundsException, NoSuchElementException {
        return issueInRow(number, row);
    }

    public boolean rowHeld(int number, int row) throws IndexOutOfBoundsException, NoSuchElementException {
        int issue = issueInRow(number, row);
        return hasBit(suitAt(number).judgment.held, issue);
    }

    public int rowBy(int number, int row) throws IndexOutOfBoundsException, NoSuchElementException {
        int issue = issueInRow(number, row);
        return suitAt(number).judgment.sourceOf(issue);
    }

    public boolean isPrecedent(int number) throws IndexOutOfBoundsException, NoSuchElementException {
        return judgedSuitAt(number).judgment.stands();
    }

    public boolean wouldHold(int number, int issue) throws IndexOutOfBoundsException, IllegalArgumentException {
        Suit suit = suitAt(number);
        if (!isIssue(issue)) {
            throw new IllegalArgumentException("no such issue");
        }
        law.weigh(suit, factsIn(suit), law.actsDone, docket);
        return hasBit(law.held, issue);
    }

    public int give(int person, int amount) throws IllegalArgumentException, UnsupportedOperationException {
        if (!isPerson(person) || !isWithin(amount, 1, MAX_AMOUNT)) {
            throw new IllegalArgumentException("no such person or amount");
        }
        if (purses[person] > MAX_ASSETS - amount) {
            throw new UnsupportedOperationException("the assets would be too great");
        }
        purses[person] += amount;
        return purses[person];
    }

    public int assets(int person) throws IllegalArgumentException {
        if (!isPerson(person)) {
            throw new IllegalArgumentException("no such person");
        }
        return purses[person];
    }

    public int debt(int number) throws IndexOutOfBoundsException {
        return suitAt(number).debt.owed;
    }

    public int setRank(int number, int rank) throws IndexOutOfBoundsException, IllegalArgumentException {
        Suit suit = suitAt(number);
        if (!isWithin(rank, 0, MAX_RANK)) {
            throw new IllegalArgumentException("no such rank");
        }
        int before = suit.debt.rank;
        suit.debt.rank = rank;
        return before;
    }

    public int enforce(int number)
            throws IndexOutOfBoundsException, UnsupportedOperationException, NoSuchElementException {
        Suit suit = suitAt(number);
        if (!isFinal(suit) || hasBit(insolvents, suit.defendant)) {
            throw new UnsupportedOperationException("it is not final, or the defendant is insolvent");
        }
        if (suit.debt.owed == 0) {
            throw new NoSuchElementException("there is no debt");
        }
        int taken = Math.min(suit.debt.owed, purseOf(suit.defendant));
        pay(suit, taken);
        return taken;
    }

    public int insolvency(int person) throws IllegalArgumentException, UnsupportedOperationException {
        if (!isPerson(person)) {
            throw new IllegalArgumentException("no such person");
        }
        if (hasBit(insolvents, person)) {
            throw new UnsupportedOperationException("the person is insolvent");
        }
        int before = purses[person];
        for (int rank = 0; rank <= MAX_RANK; rank++) {
            divide(person, rank);
        }
        insolvents = withBit(insolvents, person, true);
        return before - purses[person];
    }

    public int sections() {
        return law.sections.size();
    }

    public int cases() {
        return docket.size();
    }

    public long wealth() {
        long sum = 0;
        for (int i = 0; i < docket.size(); i++) {
            sum += docket.get(i).debt.owed;
        }
        for (int purse : purses) {
            sum += purse;
        }
        return sum;
    }

    public float wonShare() throws ArithmeticException {
        int judged = judgedCases();
        if (judged == 0) {
            throw new ArithmeticException("no case is judged");
        }
        int won = 0;
        for (int i = 0; i < docket.size(); i++) {
            Judgment judgment = docket.get(i).judgment;
            if (judgment.isMade && judgment.isWon) {
                won++;
            }
        }
        return (float) won / (float) judged;
    }

    public double meanRows() throws ArithmeticException {
        int judged = judgedCases();
        if (judged == 0) {
            throw new ArithmeticException("no case is judged");
        }
        int sum = 0;
        for (int i = 0; i < docket.size(); i++) {
            Judgment judgment = docket.get(i).judgment;
            if (judgment.isMade) {
                sum += judgment.rowCount();
            }
        }
        return (double) sum / (double) judged;
    }

    public boolean isSound() {
        for (int i = 0; i < docket.size(); i++) {
            Suit suit = docket.get(i);
            if (!isGivenByRecord(suit)
                    || isBarredAmong(i, suit.plaintiff, suit.defendant, suit.issue, suit.event)) {
                return false;
            }
        }
        return true;
    }

    private static boolean isWithin(int value, int low, int high) {
        return value >= low && value <= high;
    }

    private static boolean isPerson(int person) {
        return person >= 0 && person < PERSONS;
    }

    private static boolean isFact(int fact) {
        return fact >= 0 && fact < FACTS;
    }

    private static boolean isIssue(int issue) {
        return issue >= 0 && issue < ISSUES;
    }

    private static boolean hasBit(int mask, int bit) {
        return (mask >> bit & 1) != 0;
    }

    private static int withBit(int mask, int bit, boolean isSet) {
        return isSet ? mask | 1 << bit : mask & ~(1 << bit);
    }

    private Section sectionAt(int number) {
        if (number < 0 || number >= law.sections.size()) {
            throw new IndexOutOfBoundsException("no such section");
        }
        return law.sections.get(number);
    }

    private Suit suitAt(int number) {
        if (number < 0 || number >= docket.size()) {
            throw new IndexOutOfBoundsException("no such case");
        }
        return docket.get(number);
    }

    private Suit judgedSuitAt(int number) {
        Suit suit = suitAt(number);
        if (!suit.judgment.isMade) {
            throw new NoSuchElementException("it is not judged");
        }
        return suit;
    }

    private int issueInRow(int number, int row) {
        Judgment judgment = judgedSuitAt(number).judgment;
        if (row < 0 || row >= judgment.rowCount()) {
            throw new NoSuchElementException("there is no such row");
        }
        return judgment.issueOf(row);
    }

    private void requireFact(int fact) {
        if (!isFact(fact)) {
            throw new IllegalArgumentException("no such fact");
        }
    }

    private void requireUnjudged(Suit suit) {
        if (suit.judgment.isMade) {
            throw new UnsupportedOperationException("it is judged");
        }
    }

    private boolean isFinal(Suit suit) {
        if (!suit.judgment.isMade || suit.isStayed) {
            return false;
        }
        return suit.court >= HIGHEST_COURT || today > suit.judgment.day + APPEAL_DAYS;
    }

    private boolean isBarredAmong(int firstCases, int one, int other, int issue, int event) {
        for (int i = 0; i < firstCases && i < docket.size(); i++) {
            Suit suit = docket.get(i);
            if (suit.isBetween(one, other) && suit.issue == issue && suit.event == event) {
                return true;
            }
        }
        return false;
    }

    private int factsIn(Suit suit) {
        return suit.judgment.isMade ? suit.judgment.record : suit.proof.provenFacts(privileges);
    }

    private boolean isOutOfTime(Suit suit) {
        int limit = isIssue(suit.issue) ? limits[suit.issue] : FIRST_LIMIT;
        return daysCounted(suit) > limit;
    }

    private int daysCounted(Suit suit) {
        int counted = 0;
        int at = suit.event;
        // Each round passes the start or the end of a span, or comes to the beginning of the case.
        for (int round = 0; round <= 2 * MAX_SPANS && at < suit.begun; round++) {
            int free = firstFreeFrom(suit, at);
            if (free == at) {
                int next = nextTolledFrom(suit, at);
                counted += next - at;
                at = next;
            } else {
                at = free;
            }
        }
        return counted;
    }

    private int firstFreeFrom(Suit suit, int day) {
        int free = day;
        for (int i = 0; i < spans.size(); i++) {
            Span span = spans.get(i);
            if (suit.isBetween(span.one, span.other) && isWithin(day, span.from, span.to)) {
                free = Math.max(free, span.to + 1);
            }
        }
        return free;
    }

    private int nextTolledFrom(Suit suit, int day) {
        int next = suit.begun;
        for (int i = 0; i < spans.size(); i++) {
            Span span = spans.get(i);
            if (suit.isBetween(span.one, span.other) && span.from > day) {
                next = Math.min(next, span.from);
            }
        }
        return next;
    }

    private void pass(Suit suit, int facts, boolean isBarred) {
        Judgment judgment = suit.judgment;
        judgment.enter(today, judgmentsMade, law.actsDone, facts);
        judgmentsMade++;
        if (isBarred) {
            judgment.bar();
        } else {
            law.weigh(suit, facts, law.actsDone, docket);
            judgment.derive(law, suit.issue);
        }
        overruleBy(suit);
    }

    private void overruleBy(Suit suit) {
        int named = law.factsNamed(suit.issue);
        for (int i = 0; i < docket.size(); i++) {
            Suit other = docket.get(i);
            boolean isWeaker = other != suit && other.judgment.stands()
                    && other.issue == suit.issue && other.court <= suit.court;
            if (isWeaker && other.judgment.isWon != suit.judgment.isWon
                    && ((other.judgment.record ^ suit.judgment.record) & named) == 0) {
                other.judgment.isOverruled = true;
            }
        }
    }

    private int purseOf(int person) {
        return isPerson(person) ? purses[person] : 0;
    }

    private void pay(Suit suit, int amount) {
        if (isPerson(suit.plaintiff) && isPerson(suit.defendant)) {
            purses[suit.defendant] -= amount;
            purses[suit.plaintiff] += amount;
            suit.debt.owed -= amount;
        }
    }

    private boolean isDebtIn(Suit suit, int person, int rank) {
        return suit.defendant == person && suit.debt.rank == rank && suit.debt.owed > 0 && isFinal(suit);
    }

    private void divide(int person, int rank) {
        long total = 0;
        for (int i = 0; i < docket.size(); i++) {
            Suit suit = docket.get(i);
            if (isDebtIn(suit, person, rank)) {
                total += suit.debt.owed;
            }
        }
        int left = purseOf(person);
        boolean suffices = total <= left;
        int remaining = suffices ? 0 : remainder(person, rank, left, total);
        for (int i = 0; i < docket.size(); i++) {
            Suit suit = docket.get(i);
            if (!isDebtIn(suit, person, rank)) {
                continue;
            }
            int part = suffices ? suit.debt.owed : shareOf(suit, left, total);
            if (remaining > 0) {
                part++;
                remaining--;
            }
            pay(suit, part);
        }
    }

    private int remainder(int person, int rank, int left, long total) {
        int remaining = left;
        for (int i = 0; i < docket.size(); i++) {
            Suit suit = docket.get(i);
            if (isDebtIn(suit, person, rank)) {
                remaining -= shareOf(suit, left, total);
            }
        }
        return remaining;
    }

    private static int shareOf(Suit suit, int left, long total) {
        return total > 0 ? (int) ((long) left * suit.debt.owed / total) : 0;
    }

    private int judgedCases() {
        int judged = 0;
        for (int i = 0; i < docket.size(); i++) {
            if (docket.get(i).judgment.isMade) {
                judged++;
            }
        }
        return judged;
    }

    private boolean isGivenByRecord(Suit suit) {
        Judgment judgment = suit.judgment;
        if (!judgment.isMade || judgment.isBarred || judgment.hasPrecedent()) {
            return true;
        }
        law.weigh(suit, judgment.record, judgment.actsBefore, noCases);
        return judgment.isSameAs(law, suit.issue);
    }

    /** One act by which a section is put in force or repealed. */
    private static final class Act {
        private final int order;
        private final int day;
        private final int from;
        private final boolean isForce;

        private Act(int order, int day, int from, boolean isForce) {
            this.order = order;
            this.day = day;
            this.from = from;
            this.isForce = isForce;
        }
    }

    /** A section, with its conditions as sets of facts and of issues. */
    private static final class Section {
        private final int rank;
        private final int issue;
        private final boolean saysYes;
        private final int exceptionTo;
        private final ArrayList<Act> acts = new ArrayList<>();
        private int conditions;
        private int factsFound;
        private int factsNotFound;
        private int issuesHeld;
        private int issuesNotHeld;

        private Section(int rank, int issue, boolean saysYes, int exceptionTo) {
            this.rank = rank;
            this.issue = issue;
            this.saysYes = saysYes;
            this.exceptionTo = exceptionTo;
        }

        private int require(char kind, int number) {
            if (kind == 'f') {
                factsFound |= 1 << number;
            } else if (kind == 'n') {
                factsNotFound |= 1 << number;
            } else if (kind == 'h') {
                issuesHeld |= 1 << number;
            } else {
                issuesNotHeld |= 1 << number;
            }
            conditions++;
            return conditions;
        }

        private int issuesNamed() {
            return issuesHeld | issuesNotHeld;
        }

        private boolean wasPutInForce() {
            for (int i = 0; i < acts.size(); i++) {
                if (acts.get(i).isForce) {
                    return true;
                }
            }
            return false;
        }

        private boolean standsByDay(int day, int known) {
            boolean stands = false;
            for (int i = 0; i < acts.size(); i++) {
                Act act = acts.get(i);
                if (act.day <= known && act.from <= day) {
                    stands = act.isForce;
                }
            }
            return stands;
        }

        // A judgment knows the acts ahead of it, not those behind it on its own day.
        private boolean standsByOrder(int day, int actsBefore) {
            boolean stands = false;
            for (int i = 0; i < acts.size(); i++) {
                Act act = acts.get(i);
                if (act.order < actsBefore && act.from <= day) {
                    stands = act.isForce;
                }
            }
            return stands;
        }
    }

    /** Who has a privilege towards whom, a set of persons for each person. */
    private static final class Privileges {
        private final int[] towards = new int[PERSONS];

        private boolean stands(int person, int other) {
            return isPerson(person) && (towards[person] >> other & 1) != 0;
        }

        private void put(int person, int other, boolean has) {
            if (isPerson(person)) {
                towards[person] = withBit(towards[person], other, has);
            }
        }
    }

    /** Days that do not count between two persons. */
    private static final class Span {
        private final int one;
        private final int other;
        private final int from;
        private final int to;

        private Span(int one, int other, int from, int to) {
            this.one = one;
            this.other = other;
            this.from = from;
            this.to = to;
        }
    }

    /** One piece of evidence, some steps away from first hand. */
    private static final class Evidence {
        private final int fact;
        private final boolean isFor;
        private final int weight;
        private final int person;
        private final int from;
        private final int steps;

        private Evidence(int fact, boolean isFor, int weight, int person, int from, int steps) {
            this.fact = fact;
            this.isFor = isFor;
            this.weight = weight;
            this.person = person;
            this.from = from;
            this.steps = steps;
        }
    }

    /** What is told of the facts in a case. */
    private static final class Proof {
        private final int plaintiff;
        private final int defendant;
        private final int[] standards = new int[FACTS];
        private int presumed;
        private int conceded;
        private final ArrayList<Evidence> evidence = new ArrayList<>();

        private Proof(int plaintiff, int defendant) {
            this.plaintiff = plaintiff;
            this.defendant = defendant;
            Arrays.fill(standards, FIRST_STANDARD);
        }

        private boolean admits(int index, Privileges privileges) {
            int at = index;
            for (int step = 0; step <= MAX_STEPS; step++) {
                if (at < 0 || at >= evidence.size()) {
                    return false;
                }
                Evidence told = evidence.get(at);
                if (privileges.stands(told.person, told.isFor ? defendant : plaintiff)) {
                    return false;
                }
                if (told.from < 0) {
                    return true;
                }
                at = told.from;
            }
            return false;
        }

        private int weightOf(int fact, boolean isFor, Privileges privileges) {
            int left = 100;
            for (int i = 0; i < evidence.size(); i++) {
                Evidence told = evidence.get(i);
                if (told.fact == fact && told.isFor == isFor && admits(i, privileges)) {
                    int counts = told.weight >> told.steps;
                    left -= (left * counts + 99) / 100;
                }
            }
            return 100 - left;
        }

        private boolean proves(int fact, Privileges privileges) {
            if (hasBit(conceded, fact)) {
                return true;
            }
            int standard = isFact(fact) ? standards[fact] : FIRST_STANDARD;
            int lead = weightOf(fact, true, privileges) - weightOf(fact, false, privileges);
            return hasBit(presumed, fact) ? -lead < standard : lead >= standard;
        }

        private int provenFacts(Privileges privileges) {
            int proven = 0;
            for (int fact = 0; fact < FACTS; fact++) {
                if (proves(fact, privileges)) {
                    proven |= 1 << fact;
                }
            }
            return proven;
        }
    }

    /** The judgment of a case as it stands, with its record and its derivation. */
    private static final class Judgment {
        private boolean isMade;
        private int day;
        private int order;
        private int actsBefore;
        private int record;
        private boolean isBarred;
        private boolean isWon;
        private boolean isOverruled;
        private int asked;
        private int held;
        private final int[] sources = new int[ISSUES];

        private void enter(int day, int order, int actsBefore, int record) {
            isMade = true;
            this.day = day;
            this.order = order;
            this.actsBefore = actsBefore;
            this.record = record;
            isOverruled = false;
        }

        private void bar() {
            isBarred = true;
            isWon = false;
            asked = 0;
            held = 0;
        }

        private void derive(Law law, int issue) {
            isBarred = false;
            asked = law.askedBy(issue);
            held = law.held & asked;
            isWon = hasBit(held, issue);
            for (int i = 0; i < ISSUES; i++) {
                sources[i] = law.sources[i];
            }
        }

        private boolean stands() {
            return isMade && !isBarred && !isOverruled;
        }

        private int rowCount() {
            return Integer.bitCount(asked);
        }

        private int issueOf(int row) {
            int above = row;
            for (int issue = 0; issue < ISSUES; issue++) {
                if (hasBit(asked, issue)) {
                    if (above == 0) {
                        return issue;
                    }
                    above--;
                }
            }
            return -1;
        }

        private int sourceOf(int issue) {
            return isIssue(issue) ? sources[issue] : -1;
        }

        private boolean hasPrecedent() {
            for (int issue = 0; issue < ISSUES; issue++) {
                if (hasBit(asked, issue) && sources[issue] >= PRECEDENT_BASE) {
                    return true;
                }
            }
            return false;
        }

        private boolean isSameAs(Law law, int issue) {
            if (asked != law.askedBy(issue) || held != (law.held & asked)) {
                return false;
            }
            for (int i = 0; i < ISSUES; i++) {
                if (hasBit(asked, i) && sources[i] != law.sources[i]) {
                    return false;
                }
            }
            return isWon == hasBit(held, issue);
        }
    }

    /** What the defendant owes to the plaintiff by the judgment. */
    private static final class Debt {
        private int owed;
        private int nextInterest;
        private int rank;

        private void make(int amount, int day) {
            owed = amount;
            nextInterest = day + INTEREST_DAYS;
        }

        private void growUpTo(int day) {
            for (int i = 0; i < MAX_ADVANCE && owed > 0 && nextInterest <= day; i++) {
                owed += owed / INTEREST_PART;
                nextInterest += INTEREST_DAYS;
            }
        }
    }

    /** A case. */
    private static final class Suit {
        private final int plaintiff;
        private final int defendant;
        private final int issue;
        private final int amount;
        private final int event;
        private final int begun;
        private int court;
        private boolean isAnswered;
        private int waived;
        private boolean pleadsLimit;
        private boolean isStayed;
        private final Proof proof;
        private final Judgment judgment = new Judgment();
        private final Debt debt = new Debt();

        private Suit(int plaintiff, int defendant, int issue, int amount, int court, int event, int begun) {
            this.plaintiff = plaintiff;
            this.defendant = defendant;
            this.issue = issue;
            this.amount = amount;
            this.court = court;
            this.event = event;
            this.begun = begun;
            this.proof = new Proof(plaintiff, defendant);
        }

        private boolean isBetween(int one, int other) {
            return one == plaintiff && other == defendant || one == defendant && other == plaintiff;
        }
    }

    /** All sections and acts, and how the issues were held when this was asked last. */
    private static final class Law {
        private final ArrayList<Section> sections = new ArrayList<>();
        private int actsDone;
        private int lawDay;
        private int actsBefore;
        private int facts;
        private int waived;
        private int held;
        private final int[] sources = new int[ISSUES];

        private int enter(Section section) {
            sections.add(section);
            return sections.size() - 1;
        }

        private int factsNamed(int issue) {
            int named = 0;
            for (int i = 0; i < sections.size(); i++) {
                Section section = sections.get(i);
                if (section.issue == issue) {
                    named |= section.factsFound | section.factsNotFound;
                }
            }
            return named;
        }

        // Conditions name lower issues alone, so rising numbers find them held or not already.
        private void weigh(Suit suit, int facts, int actsBefore, ArrayList<Suit> precedents) {
            this.facts = facts;
            this.actsBefore = actsBefore;
            waived = suit.waived;
            lawDay = suit.event;
            held = 0;
            for (int issue = 0; issue < ISSUES; issue++) {
                int source = strongest(issue);
                boolean isHeld = false;
                int rank = 0;
                if (source >= 0 && source < sections.size()) {
                    Section section = sections.get(source);
                    isHeld = section.saysYes;
                    rank = section.rank;
                }
                int precedent = rank <= MAX_RANK_UNDER_PRECEDENT ? bindingOn(suit, issue, precedents) : -1;
                if (precedent >= 0 && precedent < precedents.size()) {
                    isHeld = precedents.get(precedent).judgment.isWon;
                    source = PRECEDENT_BASE + precedent;
                }
                sources[issue] = source;
                held = withBit(held, issue, isHeld);
            }
        }

        // Exceptions have higher numbers than what they except, so falling numbers find them first.
        private int strongest(int issue) {
            int silenced = 0;
            int best = -1;
            int bestRank = -1;
            int bestConditions = -1;
            for (int i = sections.size() - 1; i >= 0; i--) {
                Section section = sections.get(i);
                if (section.issue != issue || hasBit(silenced, i) || !applies(section)) {
                    continue;
                }
                if (section.exceptionTo >= 0) {
                    silenced |= 1 << section.exceptionTo;
                }
                boolean isStronger = section.rank > bestRank
                        || section.rank == bestRank && section.conditions > bestConditions;
                if (isStronger) {
                    best = i;
                    bestRank = section.rank;
                    bestConditions = section.conditions;
                }
            }
            return best;
        }

        private boolean applies(Section section) {
            if (!section.standsByOrder(lawDay, actsBefore)) {
                return false;
            }
            if ((section.factsFound & ~facts) != 0 || (section.factsNotFound & facts) != 0) {
                return false;
            }
            if (!section.saysYes && (section.issuesNamed() & waived) != 0) {
                return false;
            }
            return (section.issuesHeld & ~waived & ~held) == 0
                    && (section.issuesNotHeld & ~waived & held) == 0;
        }

        private int bindingOn(Suit suit, int issue, ArrayList<Suit> precedents) {
            int named = factsNamed(issue);
            int best = -1;
            int bestCourt = -1;
            int bestOrder = -1;
            for (int i = 0; i < precedents.size(); i++) {
                Suit other = precedents.get(i);
                Judgment judgment = other.judgment;
                boolean binds = other != suit && judgment.stands() && other.issue == issue
                        && other.court >= suit.court && ((judgment.record ^ facts) & named) == 0;
                boolean isStronger = other.court > bestCourt
                        || other.court == bestCourt && judgment.order > bestOrder;
                if (binds && isStronger) {
                    best = i;
                    bestCourt = other.court;
                    bestOrder = judgment.order;
                }
            }
            return best;
        }

        // Falling numbers ask each issue ahead of those that its conditions name.
        private int askedBy(int issue) {
            int asked = 1 << issue;
            for (int i = ISSUES - 1; i >= 0; i--) {
                if (hasBit(asked, i)) {
                    asked |= issuesNamedFor(i) & ~waived;
                }
            }
            return asked;
        }

        private int issuesNamedFor(int issue) {
            int named = 0;
            for (int i = 0; i < sections.size(); i++) {
                Section section = sections.get(i);
                if (section.issue == issue && section.standsByOrder(lawDay, actsBefore)) {
                    named |= section.issuesNamed();
                }
            }
            return named;
        }
    }
}
