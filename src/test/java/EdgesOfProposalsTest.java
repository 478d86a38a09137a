import java.util.NoSuchElementException;

/** The edges that promises 14 to 16 name: a test for each sentence, which stands above it. */
public final class EdgesOfProposalsTest {
    private static final int NOBODY = ChainExchange.NOBODY;
    private static final Class<IllegalArgumentException> ARGUMENT = IllegalArgumentException.class;
    private static final Class<IndexOutOfBoundsException> INDEX = IndexOutOfBoundsException.class;
    private static final Class<IllegalStateException> STATE = IllegalStateException.class;
    private static final Class<NoSuchElementException> NO_ELEMENT = NoSuchElementException.class;
    private static final Class<UnsupportedOperationException> UNSUPPORTED =
            UnsupportedOperationException.class;

    public static void main(String[] args) {
        nobodyAtFirst();
        aGiverForEachMember();
        nobodyAgain();
        whatIsProposedIsNotJudged();
        proposalOutlivesChanges();
        proposeNoSuchPatient();
        proposeNoSuchGiver();
        judgeOfNothing();
        judgeCycleLimit();
        judgeChainLimit();
        cannotGive();
        cannotGiveToThatMember();
        givesToTwo();
        givesUnpaid();
        altruistIsNeverUnpaid();
        notFit();
        longestChain();
        limitsOfEight();
        eachPartIsLookedAt();
        adoptTheWholePlan();
        adoptAnEmptyPlan();
        adoptLeavesThePlan();
        adoptWithoutAPlan();
        Checks.finish();
    }

    /** 14: "The PROPOSAL (a giver or nobody for each member, at first nobody)". */
    private static void nobodyAtFirst() {
        ChainExchange x = Scenes.eight();
        Checks.due("14: at first", 0, () -> x.judge(0, 0));
        ChainExchange y = Scenes.line(1);
        y.propose(1, 0);
        y.pair(0, 0, 100);
        Checks.due("14: a member that came later has nobody", 1, () -> y.judge(0, 1));
    }

    /** 14: "has giver u for v": for the least member and the greatest. */
    private static void aGiverForEachMember() {
        ChainExchange x = Scenes.alike(8);
        x.propose(0, 7);
        Checks.dueThrow("14: 7 to 0", NO_ELEMENT, () -> x.judge(8, 8));
        x.propose(7, 0);
        Checks.due("14: and 0 to 7", 2, () -> x.judge(2, 0));
        x.propose(7, 1);
        x.propose(1, 0);
        Checks.due("14: 1 to 7 instead", 3, () -> x.judge(3, 0));
    }

    /** 14: "or nobody, if u is NOBODY." */
    private static void nobodyAgain() {
        ChainExchange x = Scenes.eight();
        Checks.dueQuiet("14: nobody where nobody is", () -> x.propose(7, NOBODY));
        x.propose(7, 0);
        x.propose(2, 1);
        x.propose(7, NOBODY);
        Checks.due("14: nobody for 7", 2, () -> x.judge(0, 1));
        x.propose(2, NOBODY);
        Checks.due("14: nobody for all", 0, () -> x.judge(0, 0));
        Checks.dueQuiet("14: nobody for an altruist", () -> x.propose(0, NOBODY));
    }

    /** The same: any member for any, it is judge that looks at them. */
    private static void whatIsProposedIsNotJudged() {
        ChainExchange x = Scenes.eight();
        x.bar(0, 7, true);
        x.stay(6, false);
        Checks.dueQuiet("14: to oneself", () -> x.propose(2, 2));
        Checks.dueQuiet("14: to an altruist", () -> x.propose(0, 2));
        Checks.dueQuiet("14: an altruist to itself", () -> x.propose(1, 1));
        Checks.dueQuiet("14: who is barred", () -> x.propose(7, 0));
        Checks.dueQuiet("14: who is not here", () -> x.propose(5, 6));
        Checks.dueQuiet("14: to one who is not here", () -> x.propose(6, 1));
        Checks.dueQuiet("14: who gives already", () -> x.propose(4, 1));
    }

    /** The same: the proposal is changed by propose and adopt alone. */
    private static void proposalOutlivesChanges() {
        ChainExchange x = Scenes.line(1);
        x.propose(1, 0);
        x.pair(0, 0, 1);
        x.altruist(0);
        x.bar(0, 1, true);
        x.bar(0, 1, false);
        x.stay(1, false);
        x.stay(1, true);
        x.stay(2, false);
        x.plan(4, 4);
        x.carry();
        Checks.dueThrow("14: carried away", ARGUMENT, () -> x.judge(8, 8));
        x.stay(0, true);
        x.stay(1, true);
        Checks.due("14: it is there still", 1, () -> x.judge(0, 1));
    }

    /** 14: "IndexOutOfBoundsException when there is no member v". */
    private static void proposeNoSuchPatient() {
        for (int count : new int[] {0, 1, 8}) {
            ChainExchange x = Scenes.alike(count);
            for (int none : Numbers.noMember(count)) {
                String call = "14: of " + count + ", propose(" + none + ", ";
                Checks.dueThrow(call + "NOBODY)", INDEX, () -> x.propose(none, NOBODY));
                Checks.dueThrow(call + "0)", INDEX, () -> x.propose(none, 0));
            }
        }
    }

    /** 14: "or u is neither one nor NOBODY." */
    private static void proposeNoSuchGiver() {
        for (int count : new int[] {1, 2, 8}) {
            ChainExchange x = Scenes.alike(count);
            for (int none : Numbers.noMember(count)) {
                if (none != NOBODY) {
                    Checks.dueThrow("14: of " + count + ", propose(0, " + none + ")", INDEX,
                            () -> x.propose(0, none));
                }
            }
            Checks.due("14: nothing was proposed", 0, () -> x.judge(0, 0));
            Checks.dueQuiet("14: the last member", () -> x.propose(0, count - 1));
            Checks.dueQuiet("14: NOBODY", () -> x.propose(0, NOBODY));
        }
    }

    /** 15: "The weight of the proposal, if it is an exchange that is fit for l and k.": empty. */
    private static void judgeOfNothing() {
        ChainExchange x = new ChainExchange();
        for (int limits = 0; limits < 81; limits++) {
            int l = limits / 9;
            int k = limits % 9;
            Checks.due("15: judge(" + l + ", " + k + ") of nothing", 0, () -> x.judge(l, k));
        }
    }

    /** 15: "IndexOutOfBoundsException when l or k is not 0 .. 8": l. */
    private static void judgeCycleLimit() {
        ChainExchange x = Scenes.eight();
        x.propose(2, 0);
        for (int wrong : Numbers.outside(0, 8)) {
            Checks.dueThrow("15: judge(" + wrong + ", 8)", INDEX, () -> x.judge(wrong, 8));
        }
        Checks.due("15: l = 0", 2, () -> x.judge(0, 8));
        Checks.due("15: l = 8", 2, () -> x.judge(8, 8));
    }

    /** The same: k. */
    private static void judgeChainLimit() {
        ChainExchange x = Scenes.alike(2);
        Scenes.proposeAll(x, 1, 0);
        for (int wrong : Numbers.outside(0, 8)) {
            Checks.dueThrow("15: judge(8, " + wrong + ")", INDEX, () -> x.judge(8, wrong));
        }
        Checks.dueThrow("15: both are wrong", INDEX, () -> x.judge(-1, 9));
        Checks.due("15: k = 0", 2, () -> x.judge(8, 0));
        Checks.due("15: k = 8", 2, () -> x.judge(8, 8));
    }

    /** 15: "IllegalArgumentException when somebody is to give that can't": each reason alone. */
    private static void cannotGive() {
        dueCannot("to oneself", Scenes.alike(2), 1, 1);
        dueCannot("a pair to an altruist", Scenes.eight(), 0, 2);
        dueCannot("an altruist to an altruist", Scenes.eight(), 0, 1);
        ChainExchange giverGone = Scenes.eight();
        giverGone.stay(0, false);
        dueCannot("the giver is not here", giverGone, 2, 0);
        ChainExchange givenGone = Scenes.eight();
        givenGone.stay(7, false);
        dueCannot("the given is not here", givenGone, 7, 0);
        ChainExchange barred = Scenes.eight();
        barred.bar(1, 7, true);
        dueCannot("barred", barred, 7, 1);
        ChainExchange blood = new ChainExchange();
        blood.altruist(2);
        blood.pair(1, 0, 1);
        dueCannot("blood", blood, 1, 0);
    }

    private static void dueCannot(String why, ChainExchange x, int v, int u) {
        x.propose(v, u);
        Checks.dueThrow("15: " + why, ARGUMENT, () -> x.judge(8, 8));
        x.propose(v, NOBODY);
        Checks.due("15: without it", 0, () -> x.judge(8, 8));
    }

    /** 15: "(to that member)": that one can give to another does not count. */
    private static void cannotGiveToThatMember() {
        ChainExchange x = new ChainExchange();
        x.altruist(1);
        x.pair(1, 0, 5);
        x.pair(2, 0, 6);
        x.propose(1, 0);
        Checks.due("15: to one that it can", 5, () -> x.judge(8, 8));
        Scenes.proposeAll(x, NOBODY, NOBODY, 0);
        Checks.dueThrow("15: to one that it can't", ARGUMENT, () -> x.judge(8, 8));
    }

    /** 15: "IllegalStateException when one gives to two". */
    private static void givesToTwo() {
        ChainExchange x = Scenes.eight();
        Scenes.proposeAll(x, NOBODY, NOBODY, 0, 1);
        Checks.due("15: two give to two", 5, () -> x.judge(8, 8));
        Scenes.proposeAll(x, NOBODY, NOBODY, 0, 0);
        Checks.dueThrow("15: the least member gives to two", STATE, () -> x.judge(8, 8));
        Scenes.proposeAll(x, NOBODY, NOBODY, 7, NOBODY, NOBODY, NOBODY, 7, 2);
        Checks.dueThrow("15: the greatest member gives to two", STATE, () -> x.judge(8, 8));
        Scenes.proposeAll(x, NOBODY, NOBODY, 0, 0, 0, 0, 0, 0);
        Checks.dueThrow("15: one gives to six", STATE, () -> x.judge(8, 8));
    }

    /** 15: "NoSuchElementException when a pair gives whose patient is not given to". */
    private static void givesUnpaid() {
        ChainExchange x = Scenes.alike(8);
        Scenes.proposeAll(x, NOBODY, 0);
        Checks.dueThrow("15: the least pair unpaid", NO_ELEMENT, () -> x.judge(8, 8));
        Scenes.proposeAll(x, 7, NOBODY);
        Checks.dueThrow("15: the greatest pair unpaid", NO_ELEMENT, () -> x.judge(8, 8));
        Scenes.proposeAll(x, NOBODY, 0, 1, 2, 3, 4, 5, 6);
        Checks.dueThrow("15: a row that nobody begins", NO_ELEMENT, () -> x.judge(8, 8));
        x.propose(0, 7);
        Checks.due("15: the row closed to a cycle", 8, () -> x.judge(8, 0));
    }

    /** The same: an altruist has no patient who could be given to. */
    private static void altruistIsNeverUnpaid() {
        ChainExchange x = Scenes.eight();
        x.propose(7, 1);
        Checks.due("15: an altruist gives", 7, () -> x.judge(0, 1));
        x.propose(6, 7);
        Checks.due("15: and the pair that it gave to", 13, () -> x.judge(0, 2));
    }

    /** 15: "UnsupportedOperationException when it is not fit.": at each length, by one. */
    private static void notFit() {
        for (int size = 2; size <= 8; size++) {
            ChainExchange x = Scenes.alike(size);
            for (int member = 0; member < size; member++) {
                x.propose(member, (member + size - 1) % size);
            }
            int length = size;
            Checks.due("15: a cycle of " + size, length, () -> x.judge(length, 0));
            Checks.dueThrow("15: a cycle by one too long", UNSUPPORTED, () -> x.judge(length - 1, 8));
        }
        for (int pairs = 1; pairs <= 7; pairs++) {
            ChainExchange x = Scenes.line(pairs);
            for (int member = 1; member <= pairs; member++) {
                x.propose(member, member - 1);
            }
            int length = pairs;
            int weight = pairs * (pairs + 1) / 2;
            Checks.due("15: a chain of " + pairs, weight, () -> x.judge(0, length));
            Checks.dueThrow("15: a chain by one too long", UNSUPPORTED, () -> x.judge(8, length - 1));
        }
    }

    /** The same: a chain of seven patients, whichever member begins it. */
    private static void longestChain() {
        for (int first = 0; first < 8; first++) {
            ChainExchange x = new ChainExchange();
            for (int member = 0; member < 8; member++) {
                if (member == first) {
                    x.altruist(0);
                } else {
                    x.pair(0, 0, 100);
                }
            }
            for (int step = 1; step < 8; step++) {
                x.propose((first + step) % 8, (first + step - 1) % 8);
            }
            Checks.due("15: seven behind " + first, 700, () -> x.judge(0, 7));
            Checks.dueThrow("15: seven behind " + first + " for six", UNSUPPORTED, () -> x.judge(8, 6));
        }
    }

    /** 15: l and k may be 8 here, where plan takes 4 at most. */
    private static void limitsOfEight() {
        ChainExchange x = Scenes.ring(8);
        Scenes.proposeAll(x, 7, 0, 1, 2, 3, 4, 5, 6);
        Checks.due("15: a cycle of eight", 108, () -> x.judge(8, 8));
        Checks.due("8: which no plan has", 0, () -> x.plan(4, 4));
        Checks.dueThrow("15: for seven", UNSUPPORTED, () -> x.judge(7, 8));
    }

    /** The same: one part that is too long is enough, whichever it is. */
    private static void eachPartIsLookedAt() {
        ChainExchange x = Scenes.alike(8);
        Scenes.proposeAll(x, 1, 0, 4, 2, 3, 6, 5, NOBODY);
        Checks.due("15: cycles of two, three, two", 7, () -> x.judge(3, 0));
        Checks.dueThrow("15: the middle one is too long", UNSUPPORTED, () -> x.judge(2, 8));
        ChainExchange y = Scenes.eight();
        Scenes.proposeAll(y, NOBODY, NOBODY, 0, 1, 3, 6, 5, NOBODY);
        Checks.due("15: chains of one and two, a cycle of two", 20, () -> y.judge(2, 2));
        Checks.dueThrow("15: the second chain is too long", UNSUPPORTED, () -> y.judge(2, 1));
        Checks.dueThrow("15: the cycle is too long", UNSUPPORTED, () -> y.judge(1, 2));
        Checks.dueThrow("15: no chains at all", UNSUPPORTED, () -> y.judge(2, 0));
    }

    /** 16: "The proposal becomes the plan found last.": for each member, nobody too. */
    private static void adoptTheWholePlan() {
        ChainExchange x = Scenes.eight();
        Scenes.proposeAll(x, 7, 7, 7, 7, 7, 7, 7, 7);
        x.plan(0, 1);
        x.adopt();
        Checks.due("16: fit for its limits", 13, () -> x.judge(0, 1));
        x.propose(7, NOBODY);
        Checks.due("16: 7 was given to", 6, () -> x.judge(0, 1));
        x.propose(6, NOBODY);
        Checks.due("16: 6 was given to, and nobody else", 0, () -> x.judge(0, 0));
    }

    /** The same: an empty plan makes an empty proposal, and so does that of no members. */
    private static void adoptAnEmptyPlan() {
        ChainExchange x = Scenes.eight();
        Scenes.proposeAll(x, NOBODY, NOBODY, 0, 0);
        x.plan(0, 0);
        x.adopt();
        Checks.due("16: an empty plan", 0, () -> x.judge(0, 0));
        ChainExchange y = new ChainExchange();
        y.plan(4, 4);
        Checks.dueQuiet("16: of no members", () -> y.adopt());
        y.pair(0, 0, 1);
        Checks.due("16: who comes then has nobody", 0, () -> y.judge(0, 0));
    }

    /** The same: the plan is there still, and the two are apart. */
    private static void adoptLeavesThePlan() {
        ChainExchange x = Scenes.alike(2);
        x.plan(2, 0);
        x.adopt();
        Checks.dueQuiet("16: and once more", () -> x.adopt());
        x.propose(0, NOBODY);
        Checks.due("16: the plan after a proposal", 1, () -> x.giver(0));
        x.adopt();
        x.plan(0, 0);
        Checks.due("16: the proposal after a plan", 2, () -> x.judge(2, 0));
    }

    /** 16: "IllegalStateException as for giver." */
    private static void adoptWithoutAPlan() {
        ChainExchange x = Scenes.line(1);
        x.propose(1, 0);
        Checks.dueThrow("16: none was found", STATE, () -> x.adopt());
        x.plan(0, 0);
        x.altruist(3);
        Checks.dueThrow("16: none since a change", STATE, () -> x.adopt());
        x.plan(0, 0);
        x.carry();
        Checks.dueThrow("16: none since it was done", STATE, () -> x.adopt());
        Checks.due("16: the proposal is as it was", 1, () -> x.judge(0, 1));
    }
}
