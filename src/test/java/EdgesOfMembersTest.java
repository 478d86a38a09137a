/** The edges that promises 1 to 7 name: a test for each sentence, which stands above it. */
public final class EdgesOfMembersTest {
    private static final int NOBODY = ChainExchange.NOBODY;
    private static final Class<IllegalArgumentException> ARGUMENT = IllegalArgumentException.class;
    private static final Class<IndexOutOfBoundsException> INDEX = IndexOutOfBoundsException.class;
    private static final Class<IllegalStateException> STATE = IllegalStateException.class;
    private static final Class<UnsupportedOperationException> UNSUPPORTED =
            UnsupportedOperationException.class;

    public static void main(String[] args) {
        newHasNoMembers();
        newHasNoPlan();
        newHasAnEmptyProposal();
        newHasNothingDone();
        pairNumbers();
        pairPatientBlood();
        pairDonorBlood();
        pairWeight();
        pairWhenFull();
        altruistNumbers();
        altruistBlood();
        altruistWhenFull();
        fullOfThoseWhoAreNotHere();
        barChanges();
        barThatChangesWhatCannotBe();
        barNoSuchMember();
        barNoPair();
        barOneMember();
        stayChanges();
        stayNoSuchMember();
        membersOfNone();
        membersOfAll();
        canNoSuchMember();
        Checks.finish();
    }

    /** 1: "No members". */
    private static void newHasNoMembers() {
        ChainExchange x = new ChainExchange();
        Checks.due("1: members", 0, () -> x.members(false));
        Checks.due("1: members here", 0, () -> x.members(true));
        Checks.dueThrow("1: 0 is no member", INDEX, () -> x.stay(0, true));
        Checks.dueThrow("1: 0 and 1 are none", INDEX, () -> x.bar(0, 1, true));
    }

    /** 1: "no plan". */
    private static void newHasNoPlan() {
        ChainExchange x = new ChainExchange();
        Checks.dueThrow("1: giver", STATE, () -> x.giver(0));
        Checks.dueThrow("1: cycles", STATE, () -> x.parts(false));
        Checks.dueThrow("1: chains", STATE, () -> x.parts(true));
        Checks.dueThrow("1: length", STATE, () -> x.length(0));
        Checks.dueThrow("1: carry", STATE, () -> x.carry());
        Checks.dueThrow("1: adopt", STATE, () -> x.adopt());
    }

    /** 1: "an empty proposal": it is fit for all limits, and of no weight. */
    private static void newHasAnEmptyProposal() {
        ChainExchange x = new ChainExchange();
        Checks.due("1: judge(0, 0)", 0, () -> x.judge(0, 0));
        Checks.due("1: judge(8, 8)", 0, () -> x.judge(8, 8));
        ChainExchange y = Scenes.eight();
        Checks.due("1: the members that come have nobody", 0, () -> y.judge(0, 0));
    }

    /** 1: "nothing done". */
    private static void newHasNothingDone() {
        Checks.due("1: done", 0, () -> new ChainExchange().done());
    }

    /** 2: "A new pair: its number." */
    private static void pairNumbers() {
        ChainExchange x = new ChainExchange();
        for (int member = 0; member < 8; member++) {
            int number = member;
            Checks.due("2: the number of pair " + member, number, () -> x.pair(0, 0, 1));
            Checks.due("2: members then", number + 1, () -> x.members(false));
        }
    }

    /** 2: "IllegalArgumentException when a blood is not 0 .. 3": the patient's. */
    private static void pairPatientBlood() {
        ChainExchange x = new ChainExchange();
        for (int blood : Numbers.outside(0, 3)) {
            Checks.dueThrow("2: a patient of " + blood, ARGUMENT, () -> x.pair(blood, 0, 1));
        }
        Checks.due("2: a patient of 0", 0, () -> x.pair(0, 1, 1));
        Checks.due("2: a patient of 3", 1, () -> x.pair(3, 1, 1));
    }

    /** The same: the donor's. */
    private static void pairDonorBlood() {
        ChainExchange x = new ChainExchange();
        for (int blood : Numbers.outside(0, 3)) {
            Checks.dueThrow("2: a donor of " + blood, ARGUMENT, () -> x.pair(0, blood, 1));
        }
        Checks.due("2: a donor of 0", 0, () -> x.pair(1, 0, 1));
        Checks.due("2: a donor of 3", 1, () -> x.pair(1, 3, 1));
    }

    /** 2: "or weight not 1 .. 100". */
    private static void pairWeight() {
        ChainExchange x = new ChainExchange();
        for (int weight : Numbers.outside(1, 100)) {
            Checks.dueThrow("2: a weight of " + weight, ARGUMENT, () -> x.pair(0, 0, weight));
        }
        Checks.due("2: a weight of 1", 0, () -> x.pair(0, 0, 1));
        Checks.due("2: a weight of 100", 1, () -> x.pair(0, 0, 100));
        Checks.due("2: both weights", 101, () -> x.plan(2, 0));
    }

    /** 2: "UnsupportedOperationException when there are eight members." */
    private static void pairWhenFull() {
        ChainExchange pairs = Scenes.alike(7);
        Checks.due("2: an eighth pair", 7, () -> pairs.pair(0, 0, 1));
        Checks.dueThrow("2: a ninth pair", UNSUPPORTED, () -> pairs.pair(0, 0, 1));
        Checks.dueThrow("2: and a tenth", UNSUPPORTED, () -> pairs.pair(3, 3, 100));
        Checks.due("2: eight remain", 8, () -> pairs.members(false));
        ChainExchange altruists = altruists(8);
        Checks.dueThrow("2: a pair beside eight altruists", UNSUPPORTED, () -> altruists.pair(0, 0, 1));
    }

    private static ChainExchange altruists(int count) {
        ChainExchange x = new ChainExchange();
        for (int member = 0; member < count; member++) {
            x.altruist(0);
        }
        return x;
    }

    /** 3: "A new altruist: its number." */
    private static void altruistNumbers() {
        ChainExchange x = new ChainExchange();
        Checks.due("3: the first", 0, () -> x.altruist(0));
        x.pair(0, 0, 1);
        Checks.due("3: the next behind a pair", 2, () -> x.altruist(3));
        Checks.due("3: members then", 3, () -> x.members(false));
    }

    /** 3: "IllegalArgumentException when the blood is not 0 .. 3". */
    private static void altruistBlood() {
        ChainExchange x = new ChainExchange();
        for (int blood : Numbers.outside(0, 3)) {
            Checks.dueThrow("3: an altruist of " + blood, ARGUMENT, () -> x.altruist(blood));
        }
        Checks.due("3: an altruist of 0", 0, () -> x.altruist(0));
        Checks.due("3: an altruist of 3", 1, () -> x.altruist(3));
    }

    /** 3: "UnsupportedOperationException when there are eight members." */
    private static void altruistWhenFull() {
        ChainExchange x = altruists(7);
        Checks.due("3: an eighth", 7, () -> x.altruist(0));
        Checks.dueThrow("3: a ninth", UNSUPPORTED, () -> x.altruist(0));
        Checks.dueThrow("3: and a tenth", UNSUPPORTED, () -> x.altruist(3));
        Checks.due("3: eight remain", 8, () -> x.members(false));
        ChainExchange pairs = Scenes.alike(8);
        Checks.dueThrow("3: an altruist beside eight pairs", UNSUPPORTED, () -> pairs.altruist(0));
    }

    /** 2 and 3: who is not here, or was carried, is a member still. */
    private static void fullOfThoseWhoAreNotHere() {
        ChainExchange x = Scenes.alike(8);
        x.stay(7, false);
        Checks.dueThrow("2: one is not here", UNSUPPORTED, () -> x.pair(0, 0, 1));
        Checks.dueThrow("3: one is not here", UNSUPPORTED, () -> x.altruist(0));
        x.stay(7, true);
        x.plan(4, 0);
        Checks.due("2, 3: all are carried", 8, () -> x.carry());
        Checks.due("2, 3: nobody is here", 0, () -> x.members(true));
        Checks.dueThrow("2: nobody is here", UNSUPPORTED, () -> x.pair(0, 0, 1));
        Checks.dueThrow("3: nobody is here", UNSUPPORTED, () -> x.altruist(0));
    }

    /** 4: "The bar for donor u and patient v is there, or not: whether that changed." */
    private static void barChanges() {
        ChainExchange x = Scenes.alike(8);
        Checks.due("4: none there, taken away", false, () -> x.bar(7, 0, false));
        Checks.due("4: put there", true, () -> x.bar(7, 0, true));
        Checks.due("4: put there again", false, () -> x.bar(7, 0, true));
        Checks.due("4: the other way is another", true, () -> x.bar(0, 7, true));
        Checks.due("4: taken away", true, () -> x.bar(7, 0, false));
        Checks.due("4: taken away again", false, () -> x.bar(7, 0, false));
        Checks.due("4: the other is there still", false, () -> x.bar(0, 7, true));
    }

    /** The same for those who could not give anyway: blood, or not here. */
    private static void barThatChangesWhatCannotBe() {
        ChainExchange x = new ChainExchange();
        x.altruist(3);
        x.pair(0, 0, 1);
        x.plan(4, 4);
        Checks.due("4: a bar beside the blood", true, () -> x.bar(0, 1, true));
        Checks.dueThrow("4: is a change all the same", STATE, () -> x.giver(1));
        x.stay(0, false);
        x.plan(4, 4);
        Checks.due("4: the donor is not here", true, () -> x.bar(0, 1, false));
        Checks.dueThrow("4: which is a change as well", STATE, () -> x.giver(1));
        x.stay(1, false);
        Checks.due("4: neither is here", true, () -> x.bar(0, 1, true));
        Checks.due("4: the bar is there", false, () -> x.bar(0, 1, true));
    }

    /** 4: "IndexOutOfBoundsException when there is no such member". */
    private static void barNoSuchMember() {
        ChainExchange x = Scenes.alike(3);
        for (int none : Numbers.noMember(3)) {
            Checks.dueThrow("4: bar(" + none + ", 0)", INDEX, () -> x.bar(none, 0, true));
            Checks.dueThrow("4: bar(0, " + none + ")", INDEX, () -> x.bar(0, none, false));
        }
        Checks.due("4: the last member's", true, () -> x.bar(2, 0, true));
        Checks.due("4: for the last member", true, () -> x.bar(0, 2, true));
        ChainExchange full = Scenes.alike(8);
        for (int none : Numbers.noMember(8)) {
            Checks.dueThrow("4: of eight, bar(" + none + ", 0)", INDEX, () -> full.bar(none, 0, true));
            Checks.dueThrow("4: of eight, bar(0, " + none + ")", INDEX, () -> full.bar(0, none, true));
        }
    }

    /** 4: "IllegalArgumentException when v is no pair". */
    private static void barNoPair() {
        ChainExchange x = altruists(2);
        x.pair(0, 0, 1);
        Checks.dueThrow("4: for an altruist, by a pair", ARGUMENT, () -> x.bar(2, 0, true));
        Checks.dueThrow("4: for an altruist, by another", ARGUMENT, () -> x.bar(0, 1, true));
        Checks.dueThrow("4: taken away for an altruist", ARGUMENT, () -> x.bar(2, 1, false));
        Checks.due("4: for a pair, by an altruist", true, () -> x.bar(1, 2, true));
    }

    /** 4: "or u and v are one". */
    private static void barOneMember() {
        ChainExchange x = Scenes.alike(8);
        for (int member = 0; member < 8; member++) {
            int one = member;
            Checks.dueThrow("4: put there for one", ARGUMENT, () -> x.bar(one, one, true));
            Checks.dueThrow("4: taken away for one", ARGUMENT, () -> x.bar(one, one, false));
        }
        ChainExchange y = altruists(1);
        Checks.dueThrow("4: one altruist", ARGUMENT, () -> y.bar(0, 0, true));
    }

    /** 5: "A member is here, or not: whether that changed." */
    private static void stayChanges() {
        ChainExchange x = Scenes.eight();
        for (int member : new int[] {0, 7}) {
            Checks.due("5: is here, is to be here", false, () -> x.stay(member, true));
            Checks.due("5: goes", true, () -> x.stay(member, false));
            Checks.due("5: is gone, is to be gone", false, () -> x.stay(member, false));
            Checks.due("5: seven are here", 7, () -> x.members(true));
            Checks.due("5: comes back", true, () -> x.stay(member, true));
            Checks.due("5: is back", false, () -> x.stay(member, true));
            Checks.due("5: eight are here", 8, () -> x.members(true));
        }
    }

    /** 5: "IndexOutOfBoundsException when there is no such member." */
    private static void stayNoSuchMember() {
        for (int count : new int[] {0, 1, 7, 8}) {
            ChainExchange x = Scenes.alike(count);
            for (int none : Numbers.noMember(count)) {
                String call = "5: of " + count + ", stay(" + none + ", ";
                Checks.dueThrow(call + "true)", INDEX, () -> x.stay(none, true));
                Checks.dueThrow(call + "false)", INDEX, () -> x.stay(none, false));
            }
            Checks.due("5: nobody went", count, () -> x.members(true));
        }
    }

    /** 6: "How many members there are, or how many of them are here.": none. */
    private static void membersOfNone() {
        ChainExchange x = Scenes.alike(1);
        x.stay(0, false);
        Checks.due("6: one is a member", 1, () -> x.members(false));
        Checks.due("6: none is here", 0, () -> x.members(true));
    }

    /** The same: all, and one fewer for each that goes. */
    private static void membersOfAll() {
        ChainExchange x = Scenes.eight();
        for (int member = 0; member < 8; member++) {
            int gone = member;
            Checks.due("6: members", 8, () -> x.members(false));
            Checks.due("6: members that are left", 8 - gone, () -> x.members(true));
            x.stay(member, false);
        }
        Checks.due("6: all are gone", 0, () -> x.members(true));
        Checks.due("6: and are members", 8, () -> x.members(false));
    }

    /** 7: "Whether u can give to v (no, when there is no such member)." */
    private static void canNoSuchMember() {
        for (int count : new int[] {0, 1, 2, 8}) {
            ChainExchange x = Scenes.alike(count);
            for (int none : Numbers.noMember(count)) {
                String call = "7: of " + count + ", can";
                Checks.due(call + "(" + none + ", 0)", false, () -> x.can(none, 0));
                Checks.due(call + "(0, " + none + ")", false, () -> x.can(0, none));
                Checks.due(call + "(none, none)", false, () -> x.can(none, none));
            }
        }
        ChainExchange full = Scenes.alike(8);
        Checks.due("7: the first to the last", true, () -> full.can(0, 7));
        Checks.due("7: the last to the first", true, () -> full.can(7, 0));
        Checks.due("7: NOBODY is no member", false, () -> full.can(NOBODY, 0));
    }
}
