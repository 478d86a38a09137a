import java.util.Arrays;
import java.util.NoSuchElementException;

/**
 * Patients who have a donor that does not suit them are helped by one another, in cycles and in
 * chains that a donor without a patient begins. The promises that are named here by number stand
 * in the project's document.
 */
public final class ChainExchange {
    public static final int NOBODY = -1;

    private static final int MOST_MEMBERS = 8;
    private static final int MOST_BLOOD = 3;
    private static final int MOST_WEIGHT = 100;
    private static final int LONGEST_PLANNED = 4;
    private static final int LONGEST_JUDGED = 8;

    private final Pool pool;
    private final Planner planner;
    private final Exchange found;
    private final Exchange proposed;
    private boolean hasPlan;
    private int patientsHelped;

    /** Promise 1. */
    public ChainExchange() {
        pool = new Pool();
        planner = new Planner();
        found = new Exchange();
        proposed = new Exchange();
        hasPlan = false;
        patientsHelped = 0;
    }

    /** Promise 2. */
    public int pair(int patient, int donor, int weight)
            throws IllegalArgumentException, UnsupportedOperationException {
        if (!isBlood(patient) || !isBlood(donor)) {
            throw new IllegalArgumentException("a blood is 0 .. 3");
        }
        if (weight < 1 || weight > MOST_WEIGHT) {
            throw new IllegalArgumentException("a weight is 1 .. 100");
        }
        if (pool.isFull()) {
            throw new UnsupportedOperationException("there are eight members");
        }
        hasPlan = false;
        return pool.addPair(patient, donor, weight);
    }

    /** Promise 3. */
    public int altruist(int donor) throws IllegalArgumentException, UnsupportedOperationException {
        if (!isBlood(donor)) {
            throw new IllegalArgumentException("a blood is 0 .. 3");
        }
        if (pool.isFull()) {
            throw new UnsupportedOperationException("there are eight members");
        }
        hasPlan = false;
        return pool.addAltruist(donor);
    }

    /** Promise 4. */
    public boolean bar(int u, int v, boolean on)
            throws IndexOutOfBoundsException, IllegalArgumentException {
        requireMember(u);
        requireMember(v);
        if (!pool.isPair(v) || u == v) {
            throw new IllegalArgumentException("a bar is for a donor and another member's patient");
        }
        return noteChange(pool.setBar(u, v, on));
    }

    /** Promise 5. */
    public boolean stay(int member, boolean here) throws IndexOutOfBoundsException {
        requireMember(member);
        return noteChange(pool.setHere(member, here));
    }

    /** Promise 6. */
    public int members(boolean here) {
        return here ? pool.sizeHere() : pool.size();
    }

    /** Promise 7. */
    public boolean can(int u, int v) {
        return pool.canGive(u, v);
    }

    /** Promise 8. */
    public int plan(int l, int k) throws IllegalArgumentException {
        if (!isWithin(l, LONGEST_PLANNED) || !isWithin(k, LONGEST_PLANNED)) {
            throw new IllegalArgumentException("the longest cycle and chain are 0 .. 4");
        }
        planner.find(pool, l, k, found);
        hasPlan = true;
        return weightOf(found);
    }

    /** Promise 9. */
    public int giver(int member) throws IllegalStateException, IndexOutOfBoundsException {
        requirePlan();
        requireMember(member);
        return found.giverOf(member);
    }

    /** Promise 10. */
    public int parts(boolean chains) throws IllegalStateException {
        requirePlan();
        return found.countParts(chains);
    }

    /** Promise 11. */
    public int length(int member) throws IllegalStateException, IndexOutOfBoundsException {
        requirePlan();
        requireMember(member);
        return found.lengthAround(member);
    }

    /** Promise 12. */
    public int carry() throws IllegalStateException {
        requirePlan();
        for (int member = 0; member < pool.size(); member++) {
            if (found.lengthAround(member) > 0) {
                pool.setHere(member, false);
            }
        }
        hasPlan = false;
        int helped = found.countGifts();
        patientsHelped += helped;
        return helped;
    }

    /** Promise 13. */
    public int done() {
        return patientsHelped;
    }

    /** Promise 14. */
    public void propose(int v, int u) throws IndexOutOfBoundsException {
        requireMember(v);
        if (u != NOBODY) {
            requireMember(u);
        }
        proposed.setGiver(v, u);
    }

    /** Promise 15. */
    public int judge(int l, int k)
            throws IndexOutOfBoundsException, IllegalArgumentException, IllegalStateException,
                    NoSuchElementException, UnsupportedOperationException {
        if (!isWithin(l, LONGEST_JUDGED) || !isWithin(k, LONGEST_JUDGED)) {
            throw new IndexOutOfBoundsException("the longest cycle and chain are 0 .. 8");
        }
        if (!allProposedCanGive()) {
            throw new IllegalArgumentException("somebody is to give that can't");
        }
        if (proposed.hasDoubleGiver()) {
            throw new IllegalStateException("one gives to two");
        }
        if (hasUnpaidPair()) {
            throw new NoSuchElementException("a pair gives whose patient is not given to");
        }
        if (!proposed.isFit(l, k)) {
            throw new UnsupportedOperationException("a cycle or chain is too long");
        }
        return weightOf(proposed);
    }

    /** Promise 16. */
    public void adopt() throws IllegalStateException {
        requirePlan();
        proposed.copyFrom(found);
    }

    private static boolean isBlood(int blood) {
        return isWithin(blood, MOST_BLOOD);
    }

    private static boolean isWithin(int number, int most) {
        return number >= 0 && number <= most;
    }

    private void requireMember(int member) {
        if (!pool.has(member)) {
            throw new IndexOutOfBoundsException("there is no such member");
        }
    }

    private void requirePlan() {
        if (!hasPlan) {
            throw new IllegalStateException("there is no plan");
        }
    }

    private boolean noteChange(boolean changed) {
        if (changed) {
            hasPlan = false;
        }
        return changed;
    }

    private int weightOf(Exchange exchange) {
        int weight = 0;
        for (int member = 0; member < pool.size(); member++) {
            if (exchange.isGivenTo(member)) {
                weight += pool.weightOf(member);
            }
        }
        return weight;
    }

    private boolean allProposedCanGive() {
        for (int member = 0; member < pool.size(); member++) {
            if (proposed.isGivenTo(member)
                    && !pool.canGive(proposed.giverOf(member), member)) {
                return false;
            }
        }
        return true;
    }

    private boolean hasUnpaidPair() {
        for (int member = 0; member < pool.size(); member++) {
            if (pool.isPair(member) && proposed.gives(member) && !proposed.isGivenTo(member)) {
                return true;
            }
        }
        return false;
    }

    /**
     * The members, and who of them can give to whom. has and canGive take any numbers; what else
     * takes a number takes a member's alone.
     */
    private static final class Pool {
        private final int[] patients = new int[MOST_MEMBERS];
        private final int[] donors = new int[MOST_MEMBERS];
        // An altruist's weight is 0, which no pair's is: that tells them apart.
        private final int[] weights = new int[MOST_MEMBERS];
        // For each patient the set of the donors that are barred, a bit for each.
        private final int[] barred = new int[MOST_MEMBERS];
        private int present = 0;
        private int size = 0;

        int addPair(int patient, int donor, int weight) {
            int member = addAltruist(donor);
            patients[member] = patient;
            weights[member] = weight;
            return member;
        }

        int addAltruist(int donor) {
            int member = size;
            donors[member] = donor;
            present |= 1 << member;
            size++;
            return member;
        }

        boolean isFull() {
            return size >= MOST_MEMBERS;
        }

        int size() {
            return size;
        }

        int sizeHere() {
            return Integer.bitCount(present);
        }

        boolean has(int member) {
            return member >= 0 && member < size;
        }

        boolean isPair(int member) {
            return weights[member] > 0;
        }

        int weightOf(int member) {
            return weights[member];
        }

        boolean setBar(int u, int v, boolean on) {
            int before = barred[v];
            barred[v] = withBit(before, u, on);
            return barred[v] != before;
        }

        boolean setHere(int member, boolean here) {
            int before = present;
            present = withBit(before, member, here);
            return present != before;
        }

        boolean canGive(int u, int v) {
            return has(u) && has(v) && u != v && isPair(v)
                    && hasBit(present, u) && hasBit(present, v)
                    && (donors[u] & ~patients[v]) == 0
                    && !hasBit(barred[v], u);
        }

        private static boolean hasBit(int set, int member) {
            return (set & 1 << member) != 0;
        }

        private static int withBit(int set, int member, boolean on) {
            return on ? set | 1 << member : set & ~(1 << member);
        }
    }

    /**
     * Who gives to each member's patient. Cycles and chains are told of it only when it is an
     * exchange in the document's sense: nobody gives twice, and no pair gives unpaid.
     */
    private static final class Exchange {
        private final int[] givers = new int[MOST_MEMBERS];

        Exchange() {
            Arrays.fill(givers, NOBODY);
        }

        int giverOf(int member) {
            return givers[member];
        }

        void setGiver(int member, int giver) {
            givers[member] = giver;
        }

        void copyFrom(Exchange other) {
            System.arraycopy(other.givers, 0, givers, 0, MOST_MEMBERS);
        }

        boolean isGivenTo(int member) {
            return givers[member] != NOBODY;
        }

        boolean gives(int member) {
            return countGiftsOf(member) > 0;
        }

        boolean hasDoubleGiver() {
            for (int member = 0; member < MOST_MEMBERS; member++) {
                if (countGiftsOf(member) > 1) {
                    return true;
                }
            }
            return false;
        }

        int countGifts() {
            return MOST_MEMBERS - countGiftsOf(NOBODY);
        }

        private int countGiftsOf(int giver) {
            int gifts = 0;
            for (int member = 0; member < MOST_MEMBERS; member++) {
                if (givers[member] == giver) {
                    gifts++;
                }
            }
            return gifts;
        }

        /** A cycle has as many gifts as members, and a chain as many as patients. */
        int lengthAround(int member) {
            int head = headOf(member);
            int gifts = 0;
            for (int other = 0; other < MOST_MEMBERS; other++) {
                if (isGivenTo(other) && headOf(other) == head) {
                    gifts++;
                }
            }
            return gifts;
        }

        int countParts(boolean chains) {
            int parts = 0;
            for (int member = 0; member < MOST_MEMBERS; member++) {
                boolean isHead = headOf(member) == member && lengthAround(member) > 0;
                if (isHead && isGivenTo(member) != chains) {
                    parts++;
                }
            }
            return parts;
        }

        boolean isFit(int longestCycle, int longestChain) {
            for (int member = 0; member < MOST_MEMBERS; member++) {
                int longest = isGivenTo(headOf(member)) ? longestCycle : longestChain;
                if (lengthAround(member) > longest) {
                    return false;
                }
            }
            return true;
        }

        /** Who stands for a member's part: a chain's altruist, or the least member of a cycle. */
        private int headOf(int member) {
            int least = member;
            int at = member;
            for (int step = 0; step < MOST_MEMBERS; step++) {
                if (!isGivenTo(at)) {
                    return at;
                }
                at = givers[at];
                least = Math.min(least, at);
            }
            // So many steps back and no beginning: they went round a cycle, past all its members.
            return least;
        }
    }

    /**
     * Finds the plan. Each gift is worth a number that has the patient's weight in its upper half
     * and, in its lower half, a digit at the patient's place that is the greater the lesser the
     * giver is (0 is nobody's). The digits of an exchange's gifts never meet, so the greatest sum
     * is the greatest weight and, of equal weights, the one that the document prefers.
     */
    private static final class Planner {
        private static final int ALL_SETS = 1 << MOST_MEMBERS;
        private static final int WEIGHT_SHIFT = 32;
        private static final int DIGIT_BITS = 4;
        private static final int DIGIT_MASK = 15;

        // What each gift is worth, at giver * MOST_MEMBERS + patient: 0 where one can't give.
        private final long[] gifts = new long[MOST_MEMBERS * MOST_MEMBERS];
        // For each set of members the worth of the best cycle or chain of just them, 0 for none.
        private final long[] parts = new long[ALL_SETS];
        // For each set of members the worth of the best exchange among them.
        private final long[] best = new long[ALL_SETS];

        void find(Pool pool, int longestCycle, int longestChain, Exchange plan) {
            valueGifts(pool);
            Arrays.fill(parts, 0L);
            for (int first = 0; first < pool.size(); first++) {
                if (pool.isPair(first)) {
                    growCycle(gifts, parts, first, first, 1 << first, 0L, longestCycle - 1);
                } else {
                    growChain(gifts, parts, first, 1 << first, 0L, longestChain);
                }
            }
            int all = (1 << pool.size()) - 1;
            joinParts(all);
            unpack(best[all], plan);
        }

        private void valueGifts(Pool pool) {
            for (int u = 0; u < MOST_MEMBERS; u++) {
                for (int v = 0; v < MOST_MEMBERS; v++) {
                    gifts[u * MOST_MEMBERS + v] =
                            pool.canGive(u, v) ? worth(u, v, pool.weightOf(v)) : 0L;
                }
            }
        }

        private static long worth(int u, int v, int weight) {
            return ((long) weight << WEIGHT_SHIFT) + ((long) (MOST_MEMBERS - u) << digitShift(v));
        }

        private static int digitShift(int v) {
            return DIGIT_BITS * (MOST_MEMBERS - 1 - v);
        }

        /**
         * Members beyond the first are greater than it, so that each cycle is met once. At most
         * left members more: so deep it calls itself.
         */
        private static void growCycle(
                long[] gifts, long[] parts, int first, int last, int taken, long sum, int left) {
            long closing = gifts[last * MOST_MEMBERS + first];
            if (closing > 0) {
                parts[taken] = Math.max(parts[taken], sum + closing);
            }
            if (left <= 0) {
                return;
            }
            for (int next = first + 1; next < MOST_MEMBERS; next++) {
                long gift = gifts[last * MOST_MEMBERS + next];
                if (gift > 0 && (taken & 1 << next) == 0) {
                    growCycle(gifts, parts, first, next, taken | 1 << next, sum + gift, left - 1);
                }
            }
        }

        private static void growChain(
                long[] gifts, long[] parts, int last, int taken, long sum, int left) {
            parts[taken] = Math.max(parts[taken], sum);
            if (left <= 0) {
                return;
            }
            for (int next = 0; next < MOST_MEMBERS; next++) {
                long gift = gifts[last * MOST_MEMBERS + next];
                if (gift > 0 && (taken & 1 << next) == 0) {
                    growChain(gifts, parts, next, taken | 1 << next, sum + gift, left - 1);
                }
            }
        }

        /** The least member of a set is in no part, or in one with some others of the set. */
        private void joinParts(int all) {
            best[0] = 0L;
            for (int set = 1; set <= all; set++) {
                int least = set & -set;
                int rest = set & ~least;
                long most = best[rest];
                // The next lesser set within rest: it falls each time, so it comes to 0.
                for (int others = rest; others > 0; others = (others - 1) & rest) {
                    most = Math.max(most, parts[least | others] + best[rest & ~others]);
                }
                best[set] = most;
            }
        }

        private static void unpack(long sum, Exchange plan) {
            for (int member = 0; member < MOST_MEMBERS; member++) {
                int digit = (int) (sum >> digitShift(member)) & DIGIT_MASK;
                plan.setGiver(member, digit == 0 ? NOBODY : MOST_MEMBERS - digit);
            }
        }
    }
}
