/** Wrong numbers for a call that takes those of a range. */
final class Outside {
    private Outside() {
    }

    /**
     * Numbers that are not least .. most: next to it, far off, and such as would be in it if their
     * sign or their higher bits were lost. The range is within 0 .. 255, and may be empty.
     */
    static int[] of(int least, int most) {
        return new int[] {
            least - 1, most + 1, least - 2, most + 2, -100, 1000, -least - 1, least - 256, least + 256, most + 256,
            least + (1 << 16), most + (1 << 16), most - (1 << 16), Integer.MIN_VALUE, Integer.MIN_VALUE + least,
            Integer.MIN_VALUE + most + 1, Integer.MAX_VALUE - 1, Integer.MAX_VALUE
        };
    }
}
