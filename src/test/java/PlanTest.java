/** Promises 8 to 13: plan, giver, parts, length, carry, done. */
public final class PlanTest {
    private static final Class<IllegalArgumentException> ARGUMENT = IllegalArgumentException.class;
    private static final Class<IndexOutOfBoundsException> INDEX = IndexOutOfBoundsException.class;
    private static final Class<IllegalStateException> STATE = IllegalStateException.class;

    public static void main(String[] args) {
        limits();
        longestCycles();
        longestChains();
        heaviestWins();
        leastGiverWins();
        giverBeforeNobody();
        planOutlivesThrows();
        whatEndsAPlan();
        noMembers();
        partsAndLengths();
        carries();
        manyCalls();
        Checks.finish();
    }

    private static void limits() {
        ChainExchange x = Scenes.alike(2);
        for (int wrong : new int[] {-1, 5, Integer.MIN_VALUE, Integer.MAX_VALUE}) {
            Checks.dueThrow("8: plan(" + wrong + ", 0)", ARGUMENT, () -> x.plan(wrong, 0));
            Checks.dueThrow("8: plan(0, " + wrong + ")", ARGUMENT, () -> x.plan(0, wrong));
        }
        Checks.dueThrow("8: a plan that throws finds none", STATE, () -> x.giver(0));
        Checks.due("8: plan(0, 0)", 0, () -> x.plan(0, 0));
        Checks.due("8: plan(1, 4)", 0, () -> x.plan(1, 4));
        Checks.due("8: plan(2, 4)", 2, () -> x.plan(2, 4));
        Checks.due("8: plan(4, 4)", 2, () -> x.plan(4, 4));
    }

    private static void longestCycles() {
        for (int size = 2; size <= 5; size++) {
            ChainExchange x = Scenes.ring(size);
            int all = size * 10 + size * (size - 1) / 2;
            for (int l = 0; l <= 4; l++) {
                int most = l;
                Checks.due("8: plan(" + l + ", 4) of a ring of " + size, size <= l ? all : 0,
                        () -> x.plan(most, 4));
            }
        }
    }

    private static void longestChains() {
        ChainExchange x = Scenes.line(5);
        int[] weights = {0, 1, 3, 6, 10};
        for (int k = 0; k <= 4; k++) {
            int most = k;
            Checks.due("8: plan(4, " + k + ") of a line", weights[k], () -> x.plan(4, most));
            Checks.due("11: length(0) after plan(4, " + k + ")", k, () -> x.length(0));
        }
        Checks.due("9: givers of a line", "-1 0 1 2 3 -1", () -> Checks.givers(x, 6));
    }

    private static void heaviestWins() {
        ChainExchange x = new ChainExchange();
        x.pair(1, 2, 1);
        x.pair(2, 1, 1);
        x.pair(2, 1, 100);
        Checks.due("8: the heavier of two cycles", 101, () -> x.plan(2, 0));
        Checks.due("9: its givers", "2 -1 0", () -> Checks.givers(x, 3));
        ChainExchange y = new ChainExchange();
        y.altruist(1);
        y.pair(1, 0, 1);
        y.pair(3, 3, 9);
        Checks.due("8: one heavy patient rather than one light", 9, () -> y.plan(0, 1));
        Checks.due("9: who is given to", "-1 -1 0", () -> Checks.givers(y, 3));
        Checks.due("8: both in one chain", 10, () -> y.plan(0, 2));
        Checks.due("9: both givers", "-1 0 1", () -> Checks.givers(y, 3));
    }

    private static void leastGiverWins() {
        ChainExchange x = Scenes.alike(4);
        Checks.due("8: four alike by twos", 4, () -> x.plan(2, 0));
        Checks.due("9: givers by twos", "1 0 3 2", () -> Checks.givers(x, 4));
        Checks.due("8: four alike by fours", 4, () -> x.plan(4, 0));
        Checks.due("9: givers by fours", "1 0 3 2", () -> Checks.givers(x, 4));
        x.bar(1, 0, true);
        x.plan(2, 0);
        Checks.due("9: the least giver that is left", "2 3 0 1", () -> Checks.givers(x, 4));
        x.plan(4, 0);
        Checks.due("9: 2 to 0, then 0 to 1", "2 0 3 1", () -> Checks.givers(x, 4));
        ChainExchange y = new ChainExchange();
        y.pair(0, 3, 5);
        y.altruist(0);
        y.altruist(0);
        Checks.due("8: two altruists", 5, () -> y.plan(0, 1));
        Checks.due("9: the lesser gives", "1 -1 -1", () -> Checks.givers(y, 3));
    }

    private static void giverBeforeNobody() {
        ChainExchange x = Scenes.alike(3);
        Checks.due("8: three alike by twos", 2, () -> x.plan(2, 0));
        Checks.due("9: the last goes without", "1 0 -1", () -> Checks.givers(x, 3));
        ChainExchange y = new ChainExchange();
        y.altruist(0);
        y.pair(0, 3, 4);
        y.pair(0, 3, 4);
        y.plan(0, 1);
        Checks.due("9: the lesser patient is given to", "-1 0 -1", () -> Checks.givers(y, 3));
    }

    private static void planOutlivesThrows() {
        ChainExchange x = Scenes.alike(2);
        x.altruist(3);
        x.plan(2, 0);
        Checks.dueThrow("8: plan(5, 0)", ARGUMENT, () -> x.plan(5, 0));
        Checks.dueThrow("2: pair(4, 0, 1)", ARGUMENT, () -> x.pair(4, 0, 1));
        Checks.dueThrow("3: altruist(4)", ARGUMENT, () -> x.altruist(4));
        Checks.dueThrow("4: bar(0, 2, true)", ARGUMENT, () -> x.bar(0, 2, true));
        Checks.dueThrow("5: stay(3, false)", INDEX, () -> x.stay(3, false));
        Checks.due("4: a bar that changes nothing", false, () -> x.bar(0, 1, false));
        Checks.due("5: a stay that changes nothing", false, () -> x.stay(0, true));
        x.propose(0, 1);
        Checks.due("9: the plan still stands", "1 0 -1", () -> Checks.givers(x, 3));
    }

    private static void whatEndsAPlan() {
        ChainExchange x = Scenes.alike(2);
        x.altruist(3);
        dueNoPlanAfter(x, "pair", () -> x.pair(0, 0, 1));
        dueNoPlanAfter(x, "altruist", () -> x.altruist(3));
        dueNoPlanAfter(x, "bar on", () -> x.bar(0, 1, true));
        dueNoPlanAfter(x, "bar off", () -> x.bar(0, 1, false));
        dueNoPlanAfter(x, "stay away", () -> x.stay(2, false));
        dueNoPlanAfter(x, "stay here", () -> x.stay(2, true));
        dueNoPlanAfter(x, "carry", () -> x.carry());
        dueNoPlanAfter(x, "carry of nothing", () -> x.carry());
    }

    private static void dueNoPlanAfter(ChainExchange x, String what, Runnable change) {
        x.plan(2, 1);
        Checks.dueQuiet("9: giver(0) before " + what, () -> x.giver(0));
        change.run();
        Checks.dueThrow("9: giver(0) after " + what, STATE, () -> x.giver(0));
        Checks.dueThrow("9: giver(-1) after " + what, STATE, () -> x.giver(-1));
        Checks.dueThrow("10: parts(false) after " + what, STATE, () -> x.parts(false));
        Checks.dueThrow("11: length(0) after " + what, STATE, () -> x.length(0));
        Checks.dueThrow("11: length(99) after " + what, STATE, () -> x.length(99));
        Checks.dueThrow("12: carry() after " + what, STATE, () -> x.carry());
        Checks.dueThrow("16: adopt() after " + what, STATE, () -> x.adopt());
    }

    private static void noMembers() {
        ChainExchange x = new ChainExchange();
        Checks.due("8: plan(4, 4) of nobody", 0, () -> x.plan(4, 4));
        Checks.dueThrow("9: giver(0)", INDEX, () -> x.giver(0));
        Checks.dueThrow("11: length(0)", INDEX, () -> x.length(0));
        Checks.due("10: parts(false)", 0, () -> x.parts(false));
        Checks.due("10: parts(true)", 0, () -> x.parts(true));
        Checks.due("12: carry()", 0, () -> x.carry());
        Checks.dueThrow("12: carry() again", STATE, () -> x.carry());
    }

    /** Two altruists with chains of two and one, an idle altruist, a cycle of two, a pair alone. */
    private static ChainExchange mixed() {
        ChainExchange x = new ChainExchange();
        x.pair(3, 3, 1);
        x.altruist(3);
        x.pair(2, 1, 50);
        x.pair(1, 2, 50);
        x.altruist(0);
        x.pair(0, 0, 20);
        x.altruist(3);
        x.pair(0, 3, 30);
        x.bar(6, 0, true);
        x.bar(4, 7, true);
        x.bar(5, 2, true);
        x.bar(5, 3, true);
        x.bar(4, 2, true);
        x.bar(4, 3, true);
        return x;
    }

    private static void partsAndLengths() {
        ChainExchange x = mixed();
        Checks.due("8: plan(2, 2)", 151, () -> x.plan(2, 2));
        Checks.due("9: givers", "1 -1 3 2 -1 4 -1 5", () -> Checks.givers(x, 8));
        Checks.due("10: parts(false)", 1, () -> x.parts(false));
        Checks.due("10: parts(true)", 2, () -> x.parts(true));
        int[] lengths = {1, 1, 2, 2, 2, 2, 0, 2};
        for (int member = 0; member < 8; member++) {
            int number = member;
            Checks.due("11: length(" + member + ")", lengths[member], () -> x.length(number));
        }
        for (int none : new int[] {-1, 8, Integer.MIN_VALUE, Integer.MAX_VALUE}) {
            Checks.dueThrow("9: giver(" + none + ")", INDEX, () -> x.giver(none));
            Checks.dueThrow("11: length(" + none + ")", INDEX, () -> x.length(none));
        }
        Checks.due("8: plan(0, 0)", 0, () -> x.plan(0, 0));
        Checks.due("9: nobody gives", "-1 -1 -1 -1 -1 -1 -1 -1", () -> Checks.givers(x, 8));
        Checks.due("10: no cycles", 0, () -> x.parts(false));
        Checks.due("10: no chains", 0, () -> x.parts(true));
        Checks.due("11: length(2) in none", 0, () -> x.length(2));
    }

    private static void carries() {
        ChainExchange x = mixed();
        x.plan(2, 1);
        Checks.due("9: givers", "1 -1 3 2 -1 4 -1 -1", () -> Checks.givers(x, 8));
        Checks.due("12: carry()", 4, () -> x.carry());
        Checks.due("13: done()", 4, () -> x.done());
        Checks.due("6: the idle altruist and the pair alone are here", 2, () -> x.members(true));
        Checks.due("5: the pair alone is here", false, () -> x.stay(7, true));
        Checks.due("5: the idle altruist is here", false, () -> x.stay(6, true));
        Checks.due("5: an altruist who gave is not here", true, () -> x.stay(4, true));
        Checks.due("5: a pair that was given to is not here", true, () -> x.stay(5, true));
        x.bar(4, 7, false);
        Checks.due("8: they may give again", 50, () -> x.plan(0, 2));
        Checks.due("12: carry() of a chain", 2, () -> x.carry());
        Checks.due("13: done() adds up", 6, () -> x.done());
        Checks.due("8: nothing is left", 0, () -> x.plan(4, 4));
        Checks.due("12: carry() of nothing", 0, () -> x.carry());
        Checks.due("13: done() stays", 6, () -> x.done());
        Checks.due("6: members(false) stays", 8, () -> x.members(false));
    }

    /** All calls of an object that is used to its limit keep the promises. */
    private static void manyCalls() {
        ChainExchange x = Scenes.alike(8);
        for (int call = 8; call < 511; call++) {
            Checks.due("8: plan(4, 4) at call " + call, 8, () -> x.plan(4, 4));
        }
        Checks.due("12: the 512th call", 8, () -> x.carry());
    }
}
