/** Promises 1 to 7: a new object, pair, altruist, bar, stay, members, can. */
public final class MembersTest {
    private static final Class<IllegalArgumentException> ARGUMENT = IllegalArgumentException.class;
    private static final Class<IndexOutOfBoundsException> INDEX = IndexOutOfBoundsException.class;
    private static final Class<IllegalStateException> STATE = IllegalStateException.class;
    private static final Class<UnsupportedOperationException> UNSUPPORTED =
            UnsupportedOperationException.class;

    public static void main(String[] args) {
        newObject();
        pairs();
        altruists();
        eightMembers();
        bars();
        stays();
        bloods();
        canGive();
        objectsAreApart();
        Checks.finish();
    }

    private static void newObject() {
        ChainExchange x = new ChainExchange();
        Checks.due("1: members(false)", 0, () -> x.members(false));
        Checks.due("1: members(true)", 0, () -> x.members(true));
        Checks.due("1: done()", 0, () -> x.done());
        Checks.due("1: judge(0, 0)", 0, () -> x.judge(0, 0));
        Checks.due("1: can(0, 0)", false, () -> x.can(0, 0));
        Checks.dueThrow("1: giver(0)", STATE, () -> x.giver(0));
        Checks.dueThrow("1: length(0)", STATE, () -> x.length(0));
        Checks.dueThrow("1: parts(true)", STATE, () -> x.parts(true));
        Checks.dueThrow("1: carry()", STATE, () -> x.carry());
        Checks.dueThrow("1: adopt()", STATE, () -> x.adopt());
        Checks.dueThrow("1: propose(0, NOBODY)", INDEX, () -> x.propose(0, ChainExchange.NOBODY));
        Checks.due("1: NOBODY", -1, () -> ChainExchange.NOBODY);
    }

    private static void pairs() {
        ChainExchange x = new ChainExchange();
        int[][] wrong = {
            {-1, 0, 1}, {4, 0, 1}, {0, -1, 1}, {0, 4, 1}, {0, 0, 0}, {0, 0, -1}, {0, 0, 101},
            {Integer.MIN_VALUE, 0, 1}, {0, Integer.MAX_VALUE, 1}, {0, 0, Integer.MIN_VALUE},
            {0, 0, Integer.MAX_VALUE},
        };
        for (int[] w : wrong) {
            Checks.dueThrow("2: pair" + java.util.Arrays.toString(w), ARGUMENT,
                    () -> x.pair(w[0], w[1], w[2]));
        }
        Checks.due("2: members(false) after throws", 0, () -> x.members(false));
        Checks.due("2: pair(0, 3, 1)", 0, () -> x.pair(0, 3, 1));
        Checks.due("2: pair(3, 0, 100)", 1, () -> x.pair(3, 0, 100));
        Checks.due("2: members(true)", 2, () -> x.members(true));
        Checks.due("2: plan(2, 0) has both weights", 101, () -> {
            x.pair(0, 0, 1);
            x.stay(2, false);
            return x.plan(2, 0);
        });
    }

    private static void altruists() {
        ChainExchange x = new ChainExchange();
        for (int blood : new int[] {-1, 4, Integer.MIN_VALUE, Integer.MAX_VALUE}) {
            Checks.dueThrow("3: altruist(" + blood + ")", ARGUMENT, () -> x.altruist(blood));
        }
        Checks.due("3: members(false) after throws", 0, () -> x.members(false));
        Checks.due("3: altruist(0)", 0, () -> x.altruist(0));
        Checks.due("3: pair(0, 0, 7)", 1, () -> x.pair(0, 0, 7));
        Checks.due("3: altruist(3)", 2, () -> x.altruist(3));
        Checks.due("3: members(true)", 3, () -> x.members(true));
        Checks.due("3: nobody gives to an altruist", false, () -> x.can(0, 2) || x.can(1, 0));
    }

    private static void eightMembers() {
        ChainExchange x = new ChainExchange();
        for (int member = 0; member < 8; member++) {
            int number = member;
            Checks.due("2, 3: member " + member, number,
                    () -> number % 2 == 0 ? x.pair(0, 0, 5) : x.altruist(0));
        }
        x.plan(4, 4);
        Checks.dueThrow("2: a ninth pair", UNSUPPORTED, () -> x.pair(0, 0, 5));
        Checks.dueThrow("3: a ninth altruist", UNSUPPORTED, () -> x.altruist(0));
        Checks.dueThrow("2: a ninth pair that is wrong", ARGUMENT, () -> x.pair(0, 0, 101));
        Checks.dueThrow("3: a ninth altruist that is wrong", ARGUMENT, () -> x.altruist(4));
        Checks.due("2, 3: the plan outlives the throws", 4, () -> x.carry());
        Checks.due("6: members(false)", 8, () -> x.members(false));
        Checks.dueThrow("2: who is not here counts", UNSUPPORTED, () -> x.pair(0, 0, 5));
    }

    private static void bars() {
        ChainExchange x = new ChainExchange();
        x.pair(0, 0, 1);
        x.pair(0, 0, 1);
        x.altruist(0);
        Checks.due("4: off, was off", false, () -> x.bar(0, 1, false));
        Checks.due("4: on", true, () -> x.bar(0, 1, true));
        Checks.due("4: on, was on", false, () -> x.bar(0, 1, true));
        Checks.due("4: can(0, 1) barred", false, () -> x.can(0, 1));
        Checks.due("4: can(1, 0) is the other way", true, () -> x.can(1, 0));
        Checks.due("4: can(2, 1) is another donor", true, () -> x.can(2, 1));
        Checks.due("4: off", true, () -> x.bar(0, 1, false));
        Checks.due("4: can(0, 1) free", true, () -> x.can(0, 1));
        Checks.due("4: an altruist's bar", true, () -> x.bar(2, 0, true));
        Checks.due("4: can(2, 0) barred", false, () -> x.can(2, 0));
        x.stay(0, false);
        Checks.due("4: a bar for one who is not here", true, () -> x.bar(0, 1, true));
        x.stay(0, true);
        Checks.due("4: it holds when he is back", false, () -> x.can(0, 1));
        Checks.dueThrow("4: v no pair", ARGUMENT, () -> x.bar(0, 2, true));
        Checks.dueThrow("4: one and the same pair", ARGUMENT, () -> x.bar(1, 1, true));
        Checks.dueThrow("4: one and the same altruist", ARGUMENT, () -> x.bar(2, 2, false));
        for (int none : new int[] {-1, 3, 8, Integer.MIN_VALUE, Integer.MAX_VALUE}) {
            Checks.dueThrow("4: bar(" + none + ", 0)", INDEX, () -> x.bar(none, 0, true));
            Checks.dueThrow("4: bar(0, " + none + ")", INDEX, () -> x.bar(0, none, true));
            Checks.dueThrow("4: bar(none, none)", INDEX, () -> x.bar(none, none, true));
            Checks.dueThrow("4: bar(none, altruist)", INDEX, () -> x.bar(none, 2, true));
        }
    }

    private static void stays() {
        ChainExchange x = new ChainExchange();
        x.pair(0, 0, 1);
        x.altruist(0);
        Checks.due("5: here at first", false, () -> x.stay(0, true));
        Checks.due("5: goes", true, () -> x.stay(0, false));
        Checks.due("5: is gone", false, () -> x.stay(0, false));
        Checks.due("6: members(true)", 1, () -> x.members(true));
        Checks.due("6: members(false)", 2, () -> x.members(false));
        Checks.due("5: the patient is gone", false, () -> x.can(1, 0));
        Checks.due("5: comes back", true, () -> x.stay(0, true));
        Checks.due("5: the patient is back", true, () -> x.can(1, 0));
        Checks.due("5: the altruist goes", true, () -> x.stay(1, false));
        Checks.due("5: the donor is gone", false, () -> x.can(1, 0));
        for (int none : new int[] {-1, 2, 8, Integer.MIN_VALUE, Integer.MAX_VALUE}) {
            Checks.dueThrow("5: stay(" + none + ")", INDEX, () -> x.stay(none, true));
        }
        Checks.due("6: members(true) after throws", 1, () -> x.members(true));
    }

    /** Blood 0 goes to all, 1 to 1 and 3, 2 to 2 and 3, 3 to 3 alone. */
    private static void bloods() {
        boolean[][] goes = {
            {true, true, true, true},
            {false, true, false, true},
            {false, false, true, true},
            {false, false, false, true},
        };
        for (int donor = 0; donor < 4; donor++) {
            for (int patient = 0; patient < 4; patient++) {
                ChainExchange x = new ChainExchange();
                x.altruist(donor);
                x.pair(patient, 3, 1);
                x.pair(3, donor, 1);
                boolean want = goes[donor][patient];
                String call = donor + " to " + patient;
                Checks.due("7: an altruist's " + call, want, () -> x.can(0, 1));
                Checks.due("7: a pair's " + call, want, () -> x.can(2, 1));
            }
        }
    }

    private static void canGive() {
        ChainExchange x = new ChainExchange();
        x.pair(0, 0, 1);
        x.altruist(0);
        Checks.due("7: to oneself", false, () -> x.can(0, 0));
        Checks.due("7: to an altruist", false, () -> x.can(0, 1));
        for (int none : new int[] {-1, 2, 8, 32, Integer.MIN_VALUE, Integer.MAX_VALUE}) {
            Checks.due("7: can(" + none + ", 0)", false, () -> x.can(none, 0));
            Checks.due("7: can(1, " + none + ")", false, () -> x.can(1, none));
        }
    }

    private static void objectsAreApart() {
        ChainExchange x = new ChainExchange();
        ChainExchange y = new ChainExchange();
        x.pair(0, 0, 1);
        x.altruist(0);
        x.propose(0, 1);
        x.plan(0, 1);
        Checks.due("1: another object has no members", 0, () -> y.members(false));
        Checks.due("1: another object has no proposal", 0, () -> y.judge(0, 0));
        Checks.dueThrow("1: another object has no plan", STATE, () -> y.parts(true));
    }
}
