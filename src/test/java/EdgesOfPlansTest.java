/** The edges that promises 8 to 13 name: a test for each sentence, which stands above it. */
public final class EdgesOfPlansTest {
    private static final int NOBODY = ChainExchange.NOBODY;
    private static final Class<IllegalArgumentException> ARGUMENT = IllegalArgumentException.class;
    private static final Class<IndexOutOfBoundsException> INDEX = IndexOutOfBoundsException.class;
    private static final Class<IllegalStateException> STATE = IllegalStateException.class;

    public static void main(String[] args) {
        planOfNothing();
        planReplacesThePlan();
        planCycleLimit();
        planChainLimit();
        cyclesOfTwoAreTheShortest();
        longestCycleIsFour();
        longestChainIsFour();
        giverNobodyGives();
        giverOfAnAltruist();
        noPlanYet();
        noPlanSinceAChange();
        planSinceNoChange();
        giverNoSuchMember();
        partsOfNone();
        mostParts();
        lengthInNone();
        lengthNoSuchMember();
        carryOfNothing();
        carryOfAll();
        carryTakesOutThePlanAlone();
        carryTwice();
        carryLeavesNoPlan();
        doneOfNothing();
        doneInAll();
        doneByPlanOnly();
        Checks.finish();
    }

    /** 8: "Finds the PLAN for l and k: its weight.": where there is nothing to find. */
    private static void planOfNothing() {
        Checks.due("8: no members", 0, () -> new ChainExchange().plan(4, 4));
        Checks.due("8: a pair alone", 0, () -> Scenes.alike(1).plan(4, 4));
        ChainExchange x = new ChainExchange();
        x.altruist(0);
        x.altruist(0);
        Checks.due("8: altruists alone", 0, () -> x.plan(4, 4));
        Checks.due("8: neither cycles nor chains", 0, () -> Scenes.eight().plan(0, 0));
        ChainExchange y = Scenes.alike(8);
        for (int member = 0; member < 8; member++) {
            y.stay(member, false);
        }
        Checks.due("8: nobody is here", 0, () -> y.plan(4, 4));
        Checks.due("8: and nobody gives", "-1 -1 -1 -1 -1 -1 -1 -1", () -> Checks.givers(y, 8));
    }

    /** The same: the plan found last is the plan, an empty one too. */
    private static void planReplacesThePlan() {
        ChainExchange x = Scenes.alike(2);
        x.plan(2, 0);
        Checks.due("8: the plan", "1 0", () -> Checks.givers(x, 2));
        x.plan(1, 0);
        Checks.due("8: a lesser one found last", "-1 -1", () -> Checks.givers(x, 2));
        Checks.due("8: with no cycles", 0, () -> x.parts(false));
        x.plan(2, 0);
        Checks.due("8: the same again", "1 0", () -> Checks.givers(x, 2));
    }

    /** 8: "IllegalArgumentException when l is not 0 .. 4". */
    private static void planCycleLimit() {
        ChainExchange x = Scenes.alike(4);
        for (int wrong : Numbers.outside(0, 4)) {
            Checks.dueThrow("8: plan(" + wrong + ", 0)", ARGUMENT, () -> x.plan(wrong, 0));
        }
        Checks.dueThrow("8: no plan was found", STATE, () -> x.parts(false));
        Checks.due("8: l = 0", 0, () -> x.plan(0, 0));
        Checks.due("8: l = 4", 4, () -> x.plan(4, 0));
    }

    /** 8: "or k not 0 .. 4." */
    private static void planChainLimit() {
        ChainExchange x = Scenes.line(4);
        for (int wrong : Numbers.outside(0, 4)) {
            Checks.dueThrow("8: plan(0, " + wrong + ")", ARGUMENT, () -> x.plan(0, wrong));
        }
        Checks.dueThrow("8: both are wrong", ARGUMENT, () -> x.plan(5, 5));
        Checks.dueThrow("8: no plan was found", STATE, () -> x.parts(true));
        Checks.due("8: k = 0", 0, () -> x.plan(0, 0));
        Checks.due("8: k = 4", 10, () -> x.plan(0, 4));
    }

    /** 8: "(cycles of two are the shortest)": nobody gives to himself. */
    private static void cyclesOfTwoAreTheShortest() {
        ChainExchange x = Scenes.alike(8);
        Checks.due("8: l = 0", 0, () -> x.plan(0, 4));
        Checks.due("8: l = 1", 0, () -> x.plan(1, 4));
        Checks.due("8: no cycles of one", 0, () -> x.parts(false));
        Checks.due("8: l = 2", 8, () -> x.plan(2, 4));
    }

    /** 8: l at most 4, so that a cycle of five is in no plan. */
    private static void longestCycleIsFour() {
        Checks.due("8: a ring of four", 46, () -> Scenes.ring(4).plan(4, 4));
        Checks.due("8: a ring of four, l = 3", 0, () -> Scenes.ring(4).plan(3, 4));
        for (int size = 5; size <= 8; size++) {
            ChainExchange x = Scenes.ring(size);
            Checks.due("8: a ring of " + size, 0, () -> x.plan(4, 4));
        }
    }

    /** 8: k at most 4, so that a fifth patient of a chain goes without. */
    private static void longestChainIsFour() {
        for (int pairs = 4; pairs <= 7; pairs++) {
            ChainExchange x = Scenes.line(pairs);
            Checks.due("8: a line of " + pairs, 10, () -> x.plan(4, 4));
            Checks.due("8: the fourth patient", 3, () -> x.giver(4));
        }
        ChainExchange x = Scenes.line(5);
        x.plan(4, 4);
        Checks.due("8: the fifth patient", NOBODY, () -> x.giver(5));
    }

    /** 9: "Who gives to a member's patient by the plan found last; NOBODY when nobody does". */
    private static void giverNobodyGives() {
        ChainExchange x = Scenes.alike(3);
        x.plan(2, 0);
        Checks.due("9: to the first", 1, () -> x.giver(0));
        Checks.due("9: by the first", 0, () -> x.giver(1));
        Checks.due("9: nobody", NOBODY, () -> x.giver(2));
        x.stay(2, false);
        x.plan(2, 0);
        Checks.due("9: nobody to one who is not here", NOBODY, () -> x.giver(2));
    }

    /** 9: "or it is an altruist." */
    private static void giverOfAnAltruist() {
        ChainExchange x = Scenes.line(1);
        x.altruist(0);
        x.plan(4, 4);
        Checks.due("9: an altruist who gives", NOBODY, () -> x.giver(0));
        Checks.due("9: an altruist who does not", NOBODY, () -> x.giver(2));
    }

    /** 9: "IllegalStateException when none was found yet"; so 10, 11, 12 and 16. */
    private static void noPlanYet() {
        ChainExchange x = Scenes.alike(2);
        dueNoPlan("at first", x);
        Checks.dueThrow("8: plan(-1, 0)", ARGUMENT, () -> x.plan(-1, 0));
        dueNoPlan("after a plan that throws", x);
        x.propose(0, 1);
        x.propose(1, 0);
        x.judge(2, 0);
        dueNoPlan("after a proposal", x);
    }

    private static void dueNoPlan(String when, ChainExchange x) {
        Checks.dueThrow("9: giver " + when, STATE, () -> x.giver(0));
        Checks.dueThrow("10: cycles " + when, STATE, () -> x.parts(false));
        Checks.dueThrow("10: chains " + when, STATE, () -> x.parts(true));
        Checks.dueThrow("11: length " + when, STATE, () -> x.length(0));
        Checks.dueThrow("12: carry " + when, STATE, () -> x.carry());
        Checks.dueThrow("16: adopt " + when, STATE, () -> x.adopt());
    }

    /** 9: "or since pair, altruist, bar, stay or carry made a change": each alone. */
    private static void noPlanSinceAChange() {
        String[] names = {"pair", "altruist", "bar on", "bar off", "stay away", "stay here", "carry"};
        for (int change = 0; change < names.length; change++) {
            ChainExchange x = planned();
            change(x, change);
            dueNoPlan("since " + names[change], x);
            x.plan(2, 0);
            Checks.dueQuiet("9: a new plan after " + names[change], () -> x.giver(0));
        }
    }

    /** Two pairs that give to one another, a third that is not here, a bar from it to 0; a plan. */
    private static ChainExchange planned() {
        ChainExchange x = Scenes.alike(3);
        x.stay(2, false);
        x.bar(2, 0, true);
        x.plan(2, 0);
        return x;
    }

    private static void change(ChainExchange x, int change) {
        switch (change) {
            case 0 -> x.pair(0, 0, 1);
            case 1 -> x.altruist(0);
            case 2 -> x.bar(2, 1, true);
            case 3 -> x.bar(2, 0, false);
            case 4 -> x.stay(1, false);
            case 5 -> x.stay(2, true);
            default -> x.carry();
        }
    }

    /** The same the other way: what makes no change, or throws, leaves the plan. */
    private static void planSinceNoChange() {
        duePlanAfter("bar on, which it is", x -> x.bar(2, 0, true));
        duePlanAfter("bar off, which it is", x -> x.bar(0, 1, false));
        duePlanAfter("stay here, which it is", x -> x.stay(0, true));
        duePlanAfter("stay away, which it is", x -> x.stay(2, false));
        duePlanAfter("propose", x -> x.propose(0, 2));
        duePlanAfter("judge", x -> x.judge(8, 8));
        duePlanAfter("adopt", x -> x.adopt());
        duePlanAfter("members", x -> x.members(true));
        duePlanAfter("can", x -> x.can(0, 1));
        duePlanAfter("done", x -> x.done());
        duePlanAfter("giver", x -> x.giver(0));
        duePlanAfter("length", x -> x.length(0));
        duePlanAfter("parts", x -> x.parts(true));
    }

    private static void duePlanAfter(String what, java.util.function.Consumer<ChainExchange> call) {
        ChainExchange x = planned();
        call.accept(x);
        Checks.due("9: the plan after " + what, "1 0 -1", () -> Checks.givers(x, 3));
        Checks.due("12: carry after " + what, 2, () -> x.carry());
    }

    /** 9: "IndexOutOfBoundsException when there is no such member." */
    private static void giverNoSuchMember() {
        for (int count : new int[] {0, 1, 8}) {
            ChainExchange x = Scenes.alike(count);
            x.plan(4, 4);
            for (int none : Numbers.noMember(count)) {
                Checks.dueThrow("9: of " + count + ", giver(" + none + ")", INDEX, () -> x.giver(none));
            }
        }
        ChainExchange x = Scenes.alike(8);
        x.plan(2, 0);
        Checks.due("9: the first member's", 1, () -> x.giver(0));
        Checks.due("9: the last member's", 6, () -> x.giver(7));
    }

    /** 10: "How many cycles (chains false) or chains (true) it has.": none, of the one or both. */
    private static void partsOfNone() {
        ChainExchange x = Scenes.eight();
        x.plan(0, 0);
        Checks.due("10: no cycles in an empty plan", 0, () -> x.parts(false));
        Checks.due("10: no chains in an empty plan", 0, () -> x.parts(true));
        ChainExchange ring = Scenes.ring(4);
        ring.plan(4, 4);
        Checks.due("10: one cycle", 1, () -> ring.parts(false));
        Checks.due("10: and no chains", 0, () -> ring.parts(true));
        ChainExchange line = Scenes.line(4);
        line.plan(4, 4);
        Checks.due("10: no cycles", 0, () -> line.parts(false));
        Checks.due("10: and one chain", 1, () -> line.parts(true));
    }

    /** The same: four of each are the most, and an altruist who does not give begins no chain. */
    private static void mostParts() {
        ChainExchange cycles = Scenes.alike(8);
        cycles.plan(2, 0);
        Checks.due("10: four cycles", 4, () -> cycles.parts(false));
        Checks.due("10: beside no chain", 0, () -> cycles.parts(true));
        ChainExchange chains = new ChainExchange();
        for (int pair = 0; pair < 4; pair++) {
            chains.altruist(0);
            chains.pair(0, 3, 1);
        }
        chains.plan(4, 4);
        Checks.due("10: four chains", 4, () -> chains.parts(true));
        Checks.due("10: beside no cycle", 0, () -> chains.parts(false));
        chains.stay(1, false);
        chains.plan(4, 4);
        Checks.due("10: three chains and one altruist", 3, () -> chains.parts(true));
    }

    /** 11: "The length of the cycle or chain that a member is in by the plan; 0 when it is in none." */
    private static void lengthInNone() {
        ChainExchange x = Scenes.alike(3);
        x.altruist(3);
        x.plan(2, 0);
        Checks.due("11: in a cycle", 2, () -> x.length(0));
        Checks.due("11: a pair in none", 0, () -> x.length(2));
        Checks.due("11: an altruist in none", 0, () -> x.length(3));
        x.plan(0, 0);
        Checks.due("11: in an empty plan", 0, () -> x.length(0));
        x.stay(1, false);
        x.plan(2, 0);
        Checks.due("11: one who is not here", 0, () -> x.length(1));
        Checks.due("11: who is left", 2, () -> x.length(2));
    }

    /** 11: "Exceptions as for giver.": IndexOutOfBoundsException. */
    private static void lengthNoSuchMember() {
        for (int count : new int[] {0, 1, 8}) {
            ChainExchange x = Scenes.alike(count);
            x.plan(4, 4);
            for (int none : Numbers.noMember(count)) {
                Checks.dueThrow("11: of " + count + ", length(" + none + ")", INDEX,
                        () -> x.length(none));
            }
        }
        ChainExchange x = Scenes.alike(8);
        x.plan(2, 0);
        Checks.due("11: the first member's", 2, () -> x.length(0));
        Checks.due("11: the last member's", 2, () -> x.length(7));
    }

    /** 12: "The plan is done", when it is empty: nobody goes. */
    private static void carryOfNothing() {
        ChainExchange x = new ChainExchange();
        x.plan(4, 4);
        Checks.due("12: of no members", 0, () -> x.carry());
        ChainExchange y = Scenes.eight();
        y.plan(0, 0);
        Checks.due("12: of an empty plan", 0, () -> y.carry());
        Checks.due("12: all are here", 8, () -> y.members(true));
        Checks.due("12: nothing is done", 0, () -> y.done());
    }

    /** 12: "all members that are in a cycle or chain are not here any more": all eight. */
    private static void carryOfAll() {
        ChainExchange cycles = Scenes.alike(8);
        cycles.plan(4, 0);
        Checks.due("12: eight patients", 8, () -> cycles.carry());
        Checks.due("12: nobody is here", 0, () -> cycles.members(true));
        ChainExchange chains = Scenes.eight();
        chains.plan(0, 3);
        Checks.due("12: six patients by two altruists", 6, () -> chains.carry());
        Checks.due("12: nor are the altruists here", 0, () -> chains.members(true));
        Checks.due("12: nobody can give", false, () -> chains.can(0, 2));
    }

    /** The same: who is in none is here still, and who was not here is not. */
    private static void carryTakesOutThePlanAlone() {
        ChainExchange x = Scenes.line(3);
        x.altruist(3);
        x.stay(4, false);
        x.altruist(3);
        x.plan(0, 2);
        Checks.due("12: two patients", 2, () -> x.carry());
        boolean[] cameBack = {true, true, true, false, true, false};
        for (int member = 0; member < cameBack.length; member++) {
            int number = member;
            Checks.due("12: member " + member + " was not here", cameBack[member],
                    () -> x.stay(number, true));
        }
    }

    /** 12: "(There is no plan then.) IllegalStateException as for giver." */
    private static void carryTwice() {
        ChainExchange x = Scenes.alike(4);
        x.plan(2, 0);
        Checks.due("12: once", 4, () -> x.carry());
        Checks.dueThrow("12: twice", STATE, () -> x.carry());
        Checks.due("12: done once", 4, () -> x.done());
    }

    /** The same, after a plan that was empty: it changed nobody, but is done. */
    private static void carryLeavesNoPlan() {
        ChainExchange x = Scenes.alike(2);
        x.plan(0, 0);
        x.carry();
        dueNoPlan("after the carry of an empty plan", x);
        x.plan(2, 0);
        x.carry();
        dueNoPlan("after a carry", x);
    }

    /** 13: "How many patients were given to in all.": none, by a plan or a proposal alone. */
    private static void doneOfNothing() {
        ChainExchange x = Scenes.alike(2);
        x.plan(2, 0);
        x.adopt();
        x.judge(2, 0);
        Checks.due("13: planned, not carried", 0, () -> x.done());
        x.stay(0, false);
        Checks.dueThrow("12: a carry that throws", STATE, () -> x.carry());
        Checks.due("13: not carried", 0, () -> x.done());
    }

    /** The same: by several plans, a patient who came back counts again, an altruist never. */
    private static void doneInAll() {
        ChainExchange x = Scenes.line(3);
        int[] inAll = {1, 3, 6};
        for (int k = 1; k <= 3; k++) {
            int length = k;
            x.plan(0, k);
            Checks.due("12: a chain of " + k, length, () -> x.carry());
            Checks.due("13: after a chain of " + k, inAll[k - 1], () -> x.done());
            for (int member = 0; member <= k; member++) {
                x.stay(member, true);
            }
        }
        Checks.due("13: coming back undoes nothing", 6, () -> x.done());
    }

    /** The same: the plan is carried, and not what was proposed after it. */
    private static void doneByPlanOnly() {
        ChainExchange x = Scenes.eight();
        x.plan(0, 1);
        Scenes.proposeAll(x, NOBODY, NOBODY, 0, NOBODY, NOBODY, NOBODY, NOBODY, NOBODY);
        Checks.due("12: two chains", 2, () -> x.carry());
        Checks.due("13: two patients", 2, () -> x.done());
        Checks.due("12: 2 is here", false, () -> x.stay(2, true));
        Checks.due("12: 7 is not", true, () -> x.stay(7, true));
    }
}
