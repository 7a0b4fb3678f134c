/** What the boundary tests make again and again: sections in force, cases answered and judged. */
final class Setup {
    private Setup() {
    }

    /** Enacts a section with conditions as "f0n12h3", without an act. */
    static int section(Courtyard x, int rank, int issue, boolean says, int exceptionTo, String conditions) {
        int section = x.enact(rank, issue, says, exceptionTo);
        int at = 0;
        while (at < conditions.length()) {
            int end = at + 1;
            while (end < conditions.length() && Character.isDigit(conditions.charAt(end))) {
                end++;
            }
            x.condition(section, conditions.charAt(at), Integer.parseInt(conditions.substring(at + 1, end)));
            at = end;
        }
        return section;
    }

    /** Enacts a section and puts it in force from the day 0 on. */
    static int law(Courtyard x, int rank, int issue, boolean says, int exceptionTo, String conditions) {
        int section = section(x, rank, issue, says, exceptionTo, conditions);
        x.act(section, true, 0);
        return section;
    }

    /** An order whose issue 0 is always held, by a section that no precedent moves. */
    static Courtyard always() {
        Courtyard x = new Courtyard();
        law(x, 3, 0, true, -1, "");
        return x;
    }

    /** An order with one case of the issue 0 between the persons 0 and 1, begun and with its event on its day. */
    static Courtyard withCase(int day) {
        Courtyard x = new Courtyard();
        pass(x, day);
        x.begin(0, 1, 0, 100, 0, day);
        return x;
    }

    static void pass(Courtyard x, int days) {
        for (int left = days; left > 0; left -= 100) {
            x.advance(Math.min(left, 100));
        }
    }

    static int answered(Courtyard x, int plaintiff, int defendant, int issue, int amount, int court, int event) {
        int number = x.begin(plaintiff, defendant, issue, amount, court, event);
        x.answer(number, 255, false);
        return number;
    }

    static int judged(Courtyard x, int plaintiff, int defendant, int issue, int amount, int court, int event) {
        int number = answered(x, plaintiff, defendant, issue, amount, court, event);
        x.judge(number);
        return number;
    }

    static void giveAll(Courtyard x, int person, int amount) {
        for (int left = amount; left > 0; left -= 99999) {
            x.give(person, Math.min(left, 99999));
        }
    }
}
