import java.util.stream.IntStream;

/** Numbers that a call must refuse. */
final class Numbers {
    private Numbers() {
    }

    /**
     * Numbers that are not least .. greatest: its neighbours, the extremes, and some that a shift
     * or a narrower type would wrap into it.
     */
    static int[] outside(int least, int greatest) {
        return IntStream.of(least - 1, greatest + 1, least - 2, greatest + 2,
                        Integer.MIN_VALUE, Integer.MAX_VALUE, Integer.MIN_VALUE + least,
                        least + 8, least + 16, least + 32, greatest + 32, least - 32,
                        least + 64, least + 256, greatest + 256, greatest - 256,
                        least + 65536, greatest - 65536)
                .filter(number -> number < least || number > greatest).distinct().toArray();
    }

    /** Numbers that are no member's, when there are so many members. */
    static int[] noMember(int count) {
        return outside(0, count - 1);
    }
}
