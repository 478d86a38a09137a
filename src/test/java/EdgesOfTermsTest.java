/** The edges that "What it is" and "Terms" name: a test for each sentence, which stands above it. */
public final class EdgesOfTermsTest {
    private static final int NOBODY = ChainExchange.NOBODY;
    private static final Class<IllegalArgumentException> ARGUMENT = IllegalArgumentException.class;
    private static final Class<IllegalStateException> STATE = IllegalStateException.class;
    private static final Class<IndexOutOfBoundsException> INDEX = IndexOutOfBoundsException.class;
    private static final Class<UnsupportedOperationException> UNSUPPORTED =
            UnsupportedOperationException.class;

    public static void main(String[] args) {
        fiveHundredAndTwelveCalls();
        fiveHundredAndTwelveRefusals();
        eightMembersAtMost();
        hereAtFirst();
        twoMembersThatAreHere();
        giftsToPairsAlone();
        nothingThatThePatientHasNot();
        noBarForThem();
        oneGiftAtMost();
        onlyThoseThatCan();
        noGiftUnpaid();
        noGiftDue();
        lengthOfACycle();
        lengthOfAChain();
        noCycleLongerThanL();
        noChainLongerThanK();
        leastAndGreatestWeight();
        aWeightGreaterByOne();
        theLeastMemberDecides();
        theLesserGiver();
        theGreatestMemberDecidesLast();
        aGiverBeforeNobody();
        aGiverOfTheLeastBeforeMorePatients();
        Checks.finish();
    }

    /** "An object is used for at most 512 calls after it has been made." */
    private static void fiveHundredAndTwelveCalls() {
        ChainExchange x = Scenes.alike(2);
        for (int round = 0; round < 127; round++) {
            Checks.due("512 calls: plan, round " + round, 2, () -> x.plan(2, 0));
            Checks.due("512 calls: carry, round " + round, 2, () -> x.carry());
            Checks.due("512 calls: 0 is back, round " + round, true, () -> x.stay(0, true));
            Checks.due("512 calls: 1 is back, round " + round, true, () -> x.stay(1, true));
        }
        Checks.due("512 calls: the 511th", 254, () -> x.done());
        Checks.due("512 calls: the 512th", 2, () -> x.members(true));
    }

    /** The same, of calls that throw. */
    private static void fiveHundredAndTwelveRefusals() {
        ChainExchange x = new ChainExchange();
        for (int call = 0; call < 170; call++) {
            Checks.dueThrow("512 calls: pair refused", ARGUMENT, () -> x.pair(0, 0, 0));
            Checks.dueThrow("512 calls: giver refused", STATE, () -> x.giver(0));
            Checks.dueThrow("512 calls: propose refused", INDEX, () -> x.propose(0, 0));
        }
        Checks.due("512 calls: the 511th after refusals", 0, () -> x.pair(0, 0, 1));
        Checks.due("512 calls: the 512th after refusals", 1, () -> x.members(false));
    }

    /** "MEMBERS are numbered 0, 1, .. , 8 at most." */
    private static void eightMembersAtMost() {
        ChainExchange x = new ChainExchange();
        for (int member = 0; member < 8; member++) {
            int number = member;
            Checks.due("Terms: the number of a member", number, () -> x.altruist(0));
        }
        Checks.dueThrow("Terms: a ninth", UNSUPPORTED, () -> x.altruist(0));
        Checks.due("Terms: 7 is a member", false, () -> x.stay(7, true));
        Checks.dueThrow("Terms: 8 is none", INDEX, () -> x.stay(8, true));
    }

    /** "A member is HERE or not, at first it is." */
    private static void hereAtFirst() {
        ChainExchange x = Scenes.alike(2);
        Checks.due("Terms: a pair is here at first", false, () -> x.stay(1, true));
        x.altruist(0);
        Checks.due("Terms: an altruist is here at first", false, () -> x.stay(2, true));
        x.plan(2, 0);
        x.carry();
        x.stay(2, false);
        x.pair(0, 0, 1);
        Checks.due("Terms: the first that is here after all went", 1, () -> x.members(true));
        Checks.due("Terms: and it is the new one", false, () -> x.stay(3, true));
    }

    /** "u CAN GIVE to v, if u and v are two members that are here". */
    private static void twoMembersThatAreHere() {
        ChainExchange x = Scenes.alike(2);
        Checks.due("Terms: two members", true, () -> x.can(0, 1));
        Checks.due("Terms: one member", false, () -> x.can(1, 1));
        Checks.due("Terms: the second is none", false, () -> x.can(0, 2));
        Checks.due("Terms: the first is none", false, () -> x.can(2, 0));
        x.stay(0, false);
        Checks.due("Terms: the giver is not here", false, () -> x.can(0, 1));
        Checks.due("Terms: the given is not here", false, () -> x.can(1, 0));
        x.stay(1, false);
        Checks.due("Terms: neither is here", false, () -> x.can(0, 1));
        x.stay(0, true);
        x.stay(1, true);
        Checks.due("Terms: both are here again", true, () -> x.can(0, 1));
    }

    /** "v is a pair": u may be an altruist. */
    private static void giftsToPairsAlone() {
        ChainExchange x = Scenes.alike(1);
        x.altruist(0);
        x.altruist(0);
        Checks.due("Terms: a pair to an altruist", false, () -> x.can(0, 1));
        Checks.due("Terms: an altruist to an altruist", false, () -> x.can(1, 2));
        Checks.due("Terms: an altruist to a pair", true, () -> x.can(1, 0));
    }

    /** "the donor's blood has nothing that the patient's has not (as sums of 1 and 2)". */
    private static void nothingThatThePatientHasNot() {
        ChainExchange x = new ChainExchange();
        for (int blood = 0; blood < 4; blood++) {
            x.pair(blood, blood, 1);
        }
        String[] goesTo = {"0123", "13", "23", "3"};
        for (int u = 0; u < 4; u++) {
            for (int v = 0; v < 4; v++) {
                int donor = u;
                int patient = v;
                boolean goes = u != v && goesTo[u].indexOf('0' + v) >= 0;
                Checks.due("Terms: blood " + u + " to " + v, goes, () -> x.can(donor, patient));
            }
        }
        x.altruist(2);
        Checks.due("Terms: 2 goes to 2", true, () -> x.can(4, 2));
        Checks.due("Terms: 2 does not go to 1", false, () -> x.can(4, 1));
    }

    /** "and there is no bar for them": a bar is for one donor and one patient, one way. */
    private static void noBarForThem() {
        ChainExchange x = Scenes.alike(3);
        x.bar(0, 1, true);
        Checks.due("Terms: barred", false, () -> x.can(0, 1));
        Checks.due("Terms: the other way", true, () -> x.can(1, 0));
        Checks.due("Terms: another donor", true, () -> x.can(2, 1));
        Checks.due("Terms: another patient", true, () -> x.can(0, 2));
    }

    /** "each member gives to one patient at most". */
    private static void oneGiftAtMost() {
        ChainExchange x = new ChainExchange();
        x.altruist(0);
        x.pair(0, 3, 100);
        x.pair(0, 3, 100);
        Checks.due("Terms: one altruist, two patients", 100, () -> x.plan(4, 4));
        Checks.due("Terms: one is given to", "-1 0 -1", () -> Checks.givers(x, 3));
        x.propose(1, 0);
        Checks.due("Terms: one gift", 100, () -> x.judge(8, 8));
        x.propose(2, 0);
        Checks.dueThrow("Terms: two gifts", STATE, () -> x.judge(8, 8));
    }

    /** "only those give that can". */
    private static void onlyThoseThatCan() {
        ChainExchange x = Scenes.alike(2);
        x.altruist(0);
        x.stay(2, false);
        x.bar(0, 1, true);
        Checks.due("Terms: nobody that can", 0, () -> x.plan(4, 4));
        x.stay(2, true);
        Checks.due("Terms: by the altruist, and on", 2, () -> x.plan(4, 4));
        Checks.due("Terms: givers that can", "1 2 -1", () -> Checks.givers(x, 3));
    }

    /** "a pair gives only if its own patient is given to". */
    private static void noGiftUnpaid() {
        ChainExchange x = new ChainExchange();
        x.pair(0, 0, 1);
        x.pair(3, 3, 100);
        Checks.due("Terms: 0 can give to 1", true, () -> x.can(0, 1));
        Checks.due("Terms: but is not given to", 0, () -> x.plan(4, 4));
        x.altruist(0);
        Checks.due("Terms: when it is given to", 101, () -> x.plan(4, 4));
    }

    /** "but it need not": the last of a chain gives to nobody, though it could. */
    private static void noGiftDue() {
        ChainExchange x = Scenes.line(2);
        Checks.due("Terms: a chain that ends early", 1, () -> x.plan(0, 1));
        Checks.due("Terms: its end", "-1 0 -1", () -> Checks.givers(x, 3));
        x.propose(1, 0);
        Checks.due("Terms: an end that is proposed", 1, () -> x.judge(0, 1));
    }

    /** "A cycle's length is the number of its members". */
    private static void lengthOfACycle() {
        for (int size = 2; size <= 4; size++) {
            ChainExchange x = Scenes.ring(size);
            x.plan(4, 4);
            for (int member = 0; member < size; member++) {
                int number = member;
                Checks.due("Terms: the length of a cycle", size, () -> x.length(number));
            }
        }
    }

    /** "a chain's the number of its patients": its altruist is in it, but has no patient. */
    private static void lengthOfAChain() {
        for (int pairs = 1; pairs <= 4; pairs++) {
            ChainExchange x = Scenes.line(pairs);
            x.plan(4, 4);
            for (int member = 0; member <= pairs; member++) {
                int number = member;
                Checks.due("Terms: the length of a chain", pairs, () -> x.length(number));
            }
        }
    }

    /** "It is FIT for l and k, if no cycle is longer than l". */
    private static void noCycleLongerThanL() {
        ChainExchange x = Scenes.ring(3);
        Checks.due("Terms: a cycle of l", 33, () -> x.plan(3, 0));
        Checks.due("Terms: a cycle of l + 1", 0, () -> x.plan(2, 4));
        Scenes.proposeAll(x, 2, 0, 1);
        Checks.due("Terms: a cycle of l is judged fit", 33, () -> x.judge(3, 0));
        Checks.dueThrow("Terms: a cycle of l + 1 is not", UNSUPPORTED, () -> x.judge(2, 8));
    }

    /** "and no chain longer than k". */
    private static void noChainLongerThanK() {
        ChainExchange x = Scenes.line(3);
        Checks.due("Terms: a chain of k", 6, () -> x.plan(0, 3));
        Checks.due("Terms: a chain of k + 1 ends early", 3, () -> x.plan(4, 2));
        Scenes.proposeAll(x, NOBODY, 0, 1, 2);
        Checks.due("Terms: a chain of k is judged fit", 6, () -> x.judge(0, 3));
        Checks.dueThrow("Terms: a chain of k + 1 is not", UNSUPPORTED, () -> x.judge(8, 2));
    }

    /** "Its WEIGHT is that of all patients that are given to": at least 0, at most 800. */
    private static void leastAndGreatestWeight() {
        ChainExchange x = new ChainExchange();
        Checks.due("Terms: no weight", 0, () -> x.plan(4, 4));
        for (int member = 0; member < 8; member++) {
            x.pair(0, 0, 100);
        }
        Scenes.proposeAll(x, 1, 0, 3, 2, 5, 4, 7, 6);
        Checks.due("Terms: the greatest weight of a plan", 800, () -> x.plan(2, 0));
        Checks.due("Terms: the greatest weight that is judged", 800, () -> x.judge(2, 0));
        ChainExchange y = new ChainExchange();
        y.altruist(0);
        y.pair(0, 0, 1);
        Checks.due("Terms: the least weight of a gift", 1, () -> y.plan(0, 1));
    }

    /** "THE PLAN for l and k is the exchange that is fit for them and has the greatest weight". */
    private static void aWeightGreaterByOne() {
        ChainExchange x = new ChainExchange();
        x.altruist(0);
        x.pair(0, 3, 99);
        x.pair(0, 3, 100);
        Checks.due("Terms: 100 rather than 99", 100, () -> x.plan(0, 1));
        Checks.due("Terms: to the greater number", "-1 -1 0", () -> Checks.givers(x, 3));
        ChainExchange y = new ChainExchange();
        y.altruist(1);
        y.pair(1, 2, 50);
        y.pair(2, 3, 50);
        y.pair(1, 3, 99);
        Checks.due("Terms: 50 and 50 rather than 99", 100, () -> y.plan(0, 2));
        Checks.due("Terms: two patients", "-1 0 1 -1", () -> Checks.givers(y, 4));
    }

    /** "of several that which, for the least member whose patient they give differently". */
    private static void theLeastMemberDecides() {
        ChainExchange x = Scenes.alike(2);
        x.altruist(0);
        Checks.due("Terms: a cycle or a chain", 2, () -> x.plan(2, 2));
        Checks.due("Terms: 1 to 0 is before 2 to 0", "1 0 -1", () -> Checks.givers(x, 3));
        ChainExchange y = new ChainExchange();
        y.altruist(0);
        y.pair(0, 0, 1);
        y.pair(0, 0, 1);
        Checks.due("Terms: a chain or a cycle", 2, () -> y.plan(2, 2));
        Checks.due("Terms: 0 to 1 is before 2 to 1", "-1 0 1", () -> Checks.givers(y, 3));
        ChainExchange z = Scenes.alike(4);
        z.bar(1, 0, true);
        z.plan(4, 0);
        Checks.due("Terms: alike for 0, the next decides", "2 0 3 1", () -> Checks.givers(z, 4));
    }

    /** "has the lesser giver": each member is the least giver once all lesser ones are barred. */
    private static void theLesserGiver() {
        ChainExchange x = new ChainExchange();
        x.pair(0, 3, 1);
        for (int member = 1; member < 8; member++) {
            x.altruist(0);
        }
        for (int member = 1; member < 8; member++) {
            int least = member;
            x.plan(0, 1);
            Checks.due("Terms: the least that can give to 0", least, () -> x.giver(0));
            x.bar(member, 0, true);
        }
        Checks.due("Terms: nobody is left", 0, () -> x.plan(0, 1));
        Checks.due("Terms: so nobody gives", NOBODY, () -> x.giver(0));
    }

    /** The same for the greatest member. */
    private static void theGreatestMemberDecidesLast() {
        ChainExchange x = new ChainExchange();
        for (int member = 0; member < 7; member++) {
            x.altruist(0);
        }
        x.pair(0, 3, 1);
        for (int member = 0; member < 7; member++) {
            int least = member;
            x.plan(0, 1);
            Checks.due("Terms: the least that can give to 7", least, () -> x.giver(7));
            x.bar(member, 7, true);
        }
        Checks.due("Terms: nobody gives to 7", 0, () -> x.plan(0, 1));
        Checks.due("Terms: so 7 has nobody", NOBODY, () -> x.giver(7));
    }

    /** "(a giver before nobody)": the greatest giver too. */
    private static void aGiverBeforeNobody() {
        ChainExchange x = new ChainExchange();
        for (int member = 0; member < 7; member++) {
            x.pair(0, 3, 100);
        }
        x.altruist(0);
        x.plan(4, 4);
        Checks.due("Terms: 7 to 0, and to nobody else", "7 -1 -1 -1 -1 -1 -1 -1",
                () -> Checks.givers(x, 8));
        x.bar(7, 0, true);
        x.plan(4, 4);
        Checks.due("Terms: 7 to 1", "-1 7 -1 -1 -1 -1 -1 -1", () -> Checks.givers(x, 8));
    }

    /** How many are given to does not count, nor who gives to the members after the least. */
    private static void aGiverOfTheLeastBeforeMorePatients() {
        ChainExchange x = new ChainExchange();
        x.altruist(0);
        x.pair(0, 3, 3);
        x.pair(0, 0, 1);
        x.pair(0, 3, 2);
        x.bar(2, 1, true);
        Checks.due("Terms: 3, or 1 and 2", 3, () -> x.plan(0, 2));
        Checks.due("Terms: one patient, the lesser", "-1 0 -1 -1", () -> Checks.givers(x, 4));
        ChainExchange y = new ChainExchange();
        y.altruist(0);
        y.pair(0, 0, 1);
        y.pair(0, 3, 2);
        y.pair(0, 3, 3);
        y.bar(1, 3, true);
        Checks.due("Terms: 1 and 2, or 3", 3, () -> y.plan(0, 2));
        Checks.due("Terms: two patients, the lesser ones", "-1 0 1 -1", () -> Checks.givers(y, 4));
    }
}
