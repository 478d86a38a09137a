import java.util.NoSuchElementException;

/** Promises 14 to 16: propose, judge, adopt. */
public final class ProposalTest {
    private static final int NOBODY = ChainExchange.NOBODY;
    private static final Class<IllegalArgumentException> ARGUMENT = IllegalArgumentException.class;
    private static final Class<IndexOutOfBoundsException> INDEX = IndexOutOfBoundsException.class;
    private static final Class<IllegalStateException> STATE = IllegalStateException.class;
    private static final Class<NoSuchElementException> NO_ELEMENT = NoSuchElementException.class;
    private static final Class<UnsupportedOperationException> UNSUPPORTED =
            UnsupportedOperationException.class;

    public static void main(String[] args) {
        proposals();
        limits();
        whoCannotGive();
        whoGivesTwice();
        whoGivesUnpaid();
        fitCycles();
        fitChains();
        firstNamedWins();
        judgesWhatIsNow();
        adopts();
        Checks.finish();
    }

    private static void proposals() {
        ChainExchange x = Scenes.eight();
        Checks.due("15: an empty proposal", 0, () -> x.judge(0, 0));
        x.propose(2, 0);
        Checks.due("14: a giver", 2, () -> x.judge(0, 1));
        x.propose(2, 1);
        Checks.due("14: another giver instead", 2, () -> x.judge(0, 1));
        x.propose(3, 0);
        Checks.due("14: two givers", 5, () -> x.judge(0, 1));
        x.propose(2, NOBODY);
        Checks.due("14: one taken back", 3, () -> x.judge(0, 1));
        for (int none : new int[] {8, -2, Integer.MIN_VALUE, Integer.MAX_VALUE}) {
            Checks.dueThrow("14: propose(" + none + ", 0)", INDEX, () -> x.propose(none, 0));
            Checks.dueThrow("14: propose(3, " + none + ")", INDEX, () -> x.propose(3, none));
        }
        Checks.dueThrow("14: propose(-1, 0)", INDEX, () -> x.propose(-1, 0));
        Checks.dueThrow("14: propose(-1, -1)", INDEX, () -> x.propose(-1, -1));
        Checks.due("14: what throws changes nothing", 3, () -> x.judge(0, 1));
        Checks.dueQuiet("14: propose(0, 0)", () -> x.propose(0, 0));
        Checks.dueQuiet("14: propose(0, NOBODY)", () -> x.propose(0, NOBODY));
        x.plan(4, 4);
        x.propose(4, 1);
        Checks.due("14: a proposal leaves the plan alone", 0, () -> x.giver(2));
        Checks.due("14: a plan leaves the proposal alone", 7, () -> x.judge(8, 8));
        Checks.due("15: judging leaves the plan alone", 0, () -> x.giver(2));
    }

    private static void limits() {
        ChainExchange x = Scenes.eight();
        for (int wrong : new int[] {-1, 9, Integer.MIN_VALUE, Integer.MAX_VALUE}) {
            Checks.dueThrow("15: judge(" + wrong + ", 0)", INDEX, () -> x.judge(wrong, 0));
            Checks.dueThrow("15: judge(0, " + wrong + ")", INDEX, () -> x.judge(0, wrong));
        }
        Checks.due("15: judge(8, 8)", 0, () -> x.judge(8, 8));
    }

    private static void whoCannotGive() {
        ChainExchange x = Scenes.eight();
        x.propose(2, 2);
        Checks.dueThrow("15: to oneself", ARGUMENT, () -> x.judge(8, 8));
        x.propose(2, NOBODY);
        x.propose(1, 0);
        Checks.dueThrow("15: to an altruist", ARGUMENT, () -> x.judge(8, 8));
        x.propose(1, NOBODY);
        x.propose(2, 0);
        x.bar(0, 2, true);
        Checks.dueThrow("15: barred", ARGUMENT, () -> x.judge(8, 8));
        x.bar(0, 2, false);
        Checks.due("15: not barred any more", 2, () -> x.judge(8, 8));
        ChainExchange y = new ChainExchange();
        y.altruist(1);
        y.pair(2, 0, 1);
        y.propose(1, 0);
        Checks.dueThrow("15: blood", ARGUMENT, () -> y.judge(8, 8));
    }

    private static void whoGivesTwice() {
        ChainExchange x = Scenes.eight();
        Scenes.proposeAll(x, NOBODY, NOBODY, 0, 0);
        Checks.dueThrow("15: an altruist to two", STATE, () -> x.judge(8, 8));
        Scenes.proposeAll(x, NOBODY, NOBODY, 3, 2, 2);
        Checks.dueThrow("15: a pair to two", STATE, () -> x.judge(8, 8));
        Scenes.proposeAll(x, NOBODY, NOBODY, 7, NOBODY, NOBODY, NOBODY, NOBODY, 7);
        Checks.dueThrow("15: who can't comes before", ARGUMENT, () -> x.judge(8, 8));
        Scenes.proposeAll(x, NOBODY, NOBODY, 7, NOBODY, NOBODY, NOBODY, 7, 2);
        Checks.dueThrow("15: the greatest member to two", STATE, () -> x.judge(8, 8));
    }

    private static void whoGivesUnpaid() {
        ChainExchange x = Scenes.eight();
        Scenes.proposeAll(x, NOBODY, NOBODY, 3);
        Checks.dueThrow("15: an unpaid pair", NO_ELEMENT, () -> x.judge(8, 8));
        x.propose(3, 1);
        Checks.due("15: it is paid", 5, () -> x.judge(0, 2));
        Scenes.proposeAll(x, NOBODY, NOBODY, 7, 2);
        Checks.dueThrow("15: an unpaid greatest pair", NO_ELEMENT, () -> x.judge(8, 8));
        Scenes.proposeAll(x, NOBODY, NOBODY, 3, 2);
        Checks.due("15: a cycle pays", 5, () -> x.judge(2, 0));
    }

    private static void fitCycles() {
        for (int size = 2; size <= 8; size++) {
            ChainExchange x = new ChainExchange();
            for (int member = 0; member < size; member++) {
                x.pair(0, 0, 100);
            }
            for (int member = 0; member < size; member++) {
                x.propose(member, (member + 1) % size);
            }
            int most = size;
            Checks.due("15: a cycle of " + size, size * 100, () -> x.judge(most, 0));
            Checks.dueThrow("15: too long a cycle", UNSUPPORTED, () -> x.judge(most - 1, 8));
        }
    }

    private static void fitChains() {
        ChainExchange x = new ChainExchange();
        x.altruist(0);
        for (int member = 1; member < 8; member++) {
            x.pair(0, 0, 1);
            x.propose(member, member - 1);
            int most = member;
            Checks.due("15: a chain of " + member, member, () -> x.judge(0, most));
            Checks.dueThrow("15: too long a chain", UNSUPPORTED, () -> x.judge(8, most - 1));
        }
        ChainExchange y = Scenes.eight();
        Scenes.proposeAll(y, NOBODY, NOBODY, 0, 1, 3, 6, 7, 5);
        Checks.due("15: chains of one and two, a cycle of three", 27, () -> y.judge(3, 2));
        Checks.dueThrow("15: the cycle is too long", UNSUPPORTED, () -> y.judge(2, 2));
        Checks.dueThrow("15: a chain is too long", UNSUPPORTED, () -> y.judge(3, 1));
    }

    private static void firstNamedWins() {
        ChainExchange x = Scenes.eight();
        Scenes.proposeAll(x, 1, NOBODY, 3, NOBODY, 3, 6, 5);
        Checks.dueThrow("15: all that there is", INDEX, () -> x.judge(9, 0));
        Checks.dueThrow("15: all but the limits", ARGUMENT, () -> x.judge(0, 0));
        x.propose(0, NOBODY);
        Checks.dueThrow("15: twice, unpaid, not fit", STATE, () -> x.judge(0, 0));
        x.propose(4, NOBODY);
        Checks.dueThrow("15: unpaid, not fit", NO_ELEMENT, () -> x.judge(0, 0));
        x.propose(2, NOBODY);
        Checks.dueThrow("15: not fit", UNSUPPORTED, () -> x.judge(0, 0));
        Checks.due("15: fit", 11, () -> x.judge(2, 0));
    }

    private static void judgesWhatIsNow() {
        ChainExchange x = Scenes.eight();
        x.propose(2, 0);
        x.stay(0, false);
        Checks.dueThrow("15: the donor is not here", ARGUMENT, () -> x.judge(8, 8));
        x.stay(0, true);
        x.stay(2, false);
        Checks.dueThrow("15: the patient is not here", ARGUMENT, () -> x.judge(8, 8));
        x.stay(2, true);
        Checks.due("15: both are back", 2, () -> x.judge(8, 8));
        x.plan(0, 1);
        x.carry();
        Checks.dueThrow("15: carried away", ARGUMENT, () -> x.judge(8, 8));
        Checks.due("13: judging is not doing", 2, () -> x.done());
    }

    private static void adopts() {
        ChainExchange x = Scenes.eight();
        Scenes.proposeAll(x, 0, 0, 0, 0, 0, 0, 0, 0);
        x.plan(0, 2);
        Checks.due("9: givers", "-1 -1 -1 -1 0 1 4 5", () -> Checks.givers(x, 8));
        Checks.dueQuiet("16: adopt()", () -> x.adopt());
        Checks.due("16: the proposal is the plan", 22, () -> x.judge(0, 2));
        x.plan(0, 1);
        Checks.due("16: a later plan does not change it", 22, () -> x.judge(0, 2));
        Checks.due("16: the plan found last stands", 1, () -> x.length(0));
        x.adopt();
        Checks.due("16: nor is it kept when another is adopted", 13, () -> x.judge(0, 1));
        x.propose(7, NOBODY);
        Checks.due("16: a changed proposal", 6, () -> x.judge(0, 1));
        Checks.due("16: leaves the plan alone", 1, () -> x.giver(7));
        x.plan(0, 0);
        x.adopt();
        Checks.due("16: an empty plan", 0, () -> x.judge(0, 0));
        x.propose(2, 0);
        x.stay(7, false);
        Checks.dueThrow("16: no plan", STATE, () -> x.adopt());
        Checks.due("16: what throws changes nothing", 2, () -> x.judge(0, 1));
    }
}
