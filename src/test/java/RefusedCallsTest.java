import java.util.NoSuchElementException;
import java.util.function.Consumer;
import java.util.function.Supplier;

/**
 * "A call that throws changes nothing; where several exceptions that a call names fit, it is the
 * one that it names first.": for each call, and each two exceptions that can fit at once.
 */
public final class RefusedCallsTest {
    private static final int NOBODY = ChainExchange.NOBODY;
    private static final Class<IllegalArgumentException> ARGUMENT = IllegalArgumentException.class;
    private static final Class<IndexOutOfBoundsException> INDEX = IndexOutOfBoundsException.class;
    private static final Class<IllegalStateException> STATE = IllegalStateException.class;
    private static final Class<NoSuchElementException> NO_ELEMENT = NoSuchElementException.class;
    private static final Class<UnsupportedOperationException> UNSUPPORTED =
            UnsupportedOperationException.class;

    public static void main(String[] args) {
        scenesAreAsTold();
        newMembers();
        changes();
        plans();
        whatAPlanTells();
        proposals();
        judgements();
        pairNamesFirst();
        altruistNamesFirst();
        barNamesFirst();
        giverAndLengthNameFirst();
        judgeNamesFirst();
        Checks.finish();
    }

    /** What throws on the one of two like objects must leave it like the other. */
    private static void dueRefused(String call, Supplier<ChainExchange> scene,
            Class<? extends RuntimeException> want, Consumer<ChainExchange> refused) {
        ChainExchange x = scene.get();
        Checks.dueThrow(call, want, () -> refused.accept(x));
        Checks.due(call + " changes nothing", Trace.of(scene.get()), () -> Trace.of(x));
    }

    /** A trace is worth something only of objects that have something to lose. */
    private static void scenesAreAsTold() {
        ChainExchange x = Scenes.busy();
        Checks.due("busy: members here", 4, () -> x.members(true));
        Checks.due("busy: done", 2, () -> x.done());
        Checks.due("busy: the plan", "-1 -1 3 2 -1 -1", () -> Checks.givers(x, 6));
        Checks.due("busy: the proposal", 50, () -> x.judge(0, 2));
        Checks.due("busy: the bar", false, () -> x.can(5, 3));
        ChainExchange full = Scenes.busyAndFull();
        Checks.due("busy and full: the plan", "-1 -1 3 2 -1 -1 -1 -1", () -> Checks.givers(full, 8));
        Checks.due("busy and full: the proposal", 50, () -> full.judge(0, 2));
        ChainExchange none = Scenes.busyWithoutPlan();
        Checks.dueThrow("busy without plan: no plan", STATE, () -> none.parts(true));
        Checks.due("busy without plan: the proposal", 50, () -> none.judge(0, 2));
    }

    private static void newMembers() {
        dueRefused("2: pair(4, 0, 1)", Scenes::busy, ARGUMENT, x -> x.pair(4, 0, 1));
        dueRefused("2: pair(0, -1, 1)", Scenes::busy, ARGUMENT, x -> x.pair(0, -1, 1));
        dueRefused("2: pair(0, 0, 101)", Scenes::busy, ARGUMENT, x -> x.pair(0, 0, 101));
        dueRefused("2: a ninth pair", Scenes::busyAndFull, UNSUPPORTED, x -> x.pair(0, 0, 1));
        dueRefused("3: altruist(4)", Scenes::busy, ARGUMENT, x -> x.altruist(4));
        dueRefused("3: a ninth altruist", Scenes::busyAndFull, UNSUPPORTED, x -> x.altruist(0));
    }

    private static void changes() {
        dueRefused("4: bar(6, 2, true)", Scenes::busy, INDEX, x -> x.bar(6, 2, true));
        dueRefused("4: bar(2, -1, true)", Scenes::busy, INDEX, x -> x.bar(2, -1, true));
        dueRefused("4: bar(2, 34, true)", Scenes::busy, INDEX, x -> x.bar(2, 34, true));
        dueRefused("4: bar(2, 4, true)", Scenes::busy, ARGUMENT, x -> x.bar(2, 4, true));
        dueRefused("4: bar(3, 3, true)", Scenes::busy, ARGUMENT, x -> x.bar(3, 3, true));
        dueRefused("5: stay(6, false)", Scenes::busy, INDEX, x -> x.stay(6, false));
        dueRefused("5: stay(-1, true)", Scenes::busy, INDEX, x -> x.stay(-1, true));
        dueRefused("5: stay(8, false)", Scenes::busyAndFull, INDEX, x -> x.stay(8, false));
        dueRefused("5: stay(34, false)", Scenes::busyAndFull, INDEX, x -> x.stay(34, false));
    }

    private static void plans() {
        dueRefused("8: plan(5, 0)", Scenes::busy, ARGUMENT, x -> x.plan(5, 0));
        dueRefused("8: plan(0, -1)", Scenes::busy, ARGUMENT, x -> x.plan(0, -1));
        dueRefused("8: plan(-1, 4)", Scenes::busyWithoutPlan, ARGUMENT, x -> x.plan(-1, 4));
        dueRefused("8: plan(4, 5)", Scenes::busyWithoutPlan, ARGUMENT, x -> x.plan(4, 5));
    }

    private static void whatAPlanTells() {
        dueRefused("9: giver(6)", Scenes::busy, INDEX, x -> x.giver(6));
        dueRefused("11: length(-1)", Scenes::busy, INDEX, x -> x.length(-1));
        dueRefused("9: giver(2), no plan", Scenes::busyWithoutPlan, STATE, x -> x.giver(2));
        dueRefused("10: parts(false), no plan", Scenes::busyWithoutPlan, STATE, x -> x.parts(false));
        dueRefused("10: parts(true), no plan", Scenes::busyWithoutPlan, STATE, x -> x.parts(true));
        dueRefused("11: length(2), no plan", Scenes::busyWithoutPlan, STATE, x -> x.length(2));
        dueRefused("12: carry(), no plan", Scenes::busyWithoutPlan, STATE, x -> x.carry());
        dueRefused("16: adopt(), no plan", Scenes::busyWithoutPlan, STATE, x -> x.adopt());
        dueRefused("12: carry() of a new object", ChainExchange::new, STATE, x -> x.carry());
        dueRefused("16: adopt() of a new object", ChainExchange::new, STATE, x -> x.adopt());
    }

    private static void proposals() {
        dueRefused("14: propose(6, NOBODY)", Scenes::busy, INDEX, x -> x.propose(6, NOBODY));
        dueRefused("14: propose(-1, 2)", Scenes::busy, INDEX, x -> x.propose(-1, 2));
        dueRefused("14: propose(2, 6)", Scenes::busy, INDEX, x -> x.propose(2, 6));
        dueRefused("14: propose(2, -2)", Scenes::busy, INDEX, x -> x.propose(2, -2));
        dueRefused("14: propose(8, 8)", Scenes::busyAndFull, INDEX, x -> x.propose(8, 8));
    }

    private static void judgements() {
        dueRefused("15: judge(9, 0)", Scenes::busy, INDEX, x -> x.judge(9, 0));
        dueRefused("15: judge(0, -1)", Scenes::busy, INDEX, x -> x.judge(0, -1));
        dueRefused("15: who can't", proposing(3, 5), ARGUMENT, x -> x.judge(8, 8));
        dueRefused("15: one to two", proposing(2, 4), STATE, x -> x.judge(8, 8));
        dueRefused("15: unpaid", proposing(3, NOBODY), NO_ELEMENT, x -> x.judge(8, 8));
        dueRefused("15: not fit", Scenes::busy, UNSUPPORTED, x -> x.judge(8, 1));
    }

    private static Supplier<ChainExchange> proposing(int v, int u) {
        return () -> {
            ChainExchange x = Scenes.busy();
            x.propose(v, u);
            return x;
        };
    }

    private static void pairNamesFirst() {
        dueRefused("2: full, patient", Scenes::busyAndFull, ARGUMENT, x -> x.pair(4, 0, 1));
        dueRefused("2: full, donor", Scenes::busyAndFull, ARGUMENT, x -> x.pair(0, -1, 1));
        dueRefused("2: full, weight", Scenes::busyAndFull, ARGUMENT, x -> x.pair(0, 0, 0));
    }

    private static void altruistNamesFirst() {
        dueRefused("3: full, blood", Scenes::busyAndFull, ARGUMENT, x -> x.altruist(-1));
    }

    private static void barNamesFirst() {
        dueRefused("4: no u, v no pair", Scenes::busy, INDEX, x -> x.bar(6, 4, true));
        dueRefused("4: no u, no v, one", Scenes::busy, INDEX, x -> x.bar(6, 6, true));
        dueRefused("4: NOBODY twice", Scenes::busy, INDEX, x -> x.bar(NOBODY, NOBODY, true));
        dueRefused("4: 8 twice", Scenes::busyAndFull, INDEX, x -> x.bar(8, 8, false));
    }

    private static void giverAndLengthNameFirst() {
        for (int none : Numbers.noMember(6)) {
            ChainExchange x = Scenes.busyWithoutPlan();
            Checks.dueThrow("9: no plan, giver(" + none + ")", STATE, () -> x.giver(none));
            Checks.dueThrow("11: no plan, length(" + none + ")", STATE, () -> x.length(none));
        }
        dueRefused("9: no plan, no member", ChainExchange::new, STATE, x -> x.giver(0));
        dueRefused("11: no plan, no member", ChainExchange::new, STATE, x -> x.length(0));
    }

    /** Of the eight: 0 and 1 are altruists; a gift to 0 is one that can't be. */
    private static void judgeNamesFirst() {
        int[] cannot = {1, NOBODY, NOBODY, NOBODY, NOBODY, NOBODY, NOBODY, NOBODY};
        int[] twice = {NOBODY, NOBODY, 0, 0, NOBODY, NOBODY, NOBODY, NOBODY};
        int[] unpaid = {NOBODY, NOBODY, NOBODY, NOBODY, 5, NOBODY, NOBODY, NOBODY};
        int[] cycle = {NOBODY, NOBODY, NOBODY, NOBODY, NOBODY, NOBODY, 7, 6};
        int[][] faults = {cannot, twice, unpaid, cycle};
        for (int set = 0; set < 16; set++) {
            ChainExchange x = Scenes.eight();
            for (int fault = 0; fault < 4; fault++) {
                if ((set & 1 << fault) != 0) {
                    proposeGifts(x, faults[fault]);
                }
            }
            dueJudged(x, set);
        }
    }

    private static void proposeGifts(ChainExchange x, int[] givers) {
        for (int member = 0; member < givers.length; member++) {
            if (givers[member] != NOBODY) {
                x.propose(member, givers[member]);
            }
        }
    }

    /** The least fault of the set is the one that judge names first; a wrong limit is before all. */
    private static void dueJudged(ChainExchange x, int set) {
        String[] named = {"IllegalArgumentException", "IllegalStateException",
            "NoSuchElementException", "UnsupportedOperationException"};
        String want = set == 0 ? "0" : "throws." + named[Integer.numberOfTrailingZeros(set)];
        Checks.due("15: faults " + Integer.toBinaryString(set), want, () -> x.judge(1, 1));
        Checks.dueThrow("15: and l is wrong", INDEX, () -> x.judge(9, 1));
        Checks.dueThrow("15: and k is wrong", INDEX, () -> x.judge(1, -1));
    }
}
