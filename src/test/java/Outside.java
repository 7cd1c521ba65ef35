/** Numbers that lie outside a range 0 .. last. */
final class Outside {
    // From 32 on: an int shifted or multiplied by these may come back into a range by wrap-around.
    private static final int[] FURTHER = {
        -2, -3, -4, -5, -8, -16, 32, 33, 64, 256, 65536, 1 << 28, 1 << 29, 1 << 30,
        Integer.MIN_VALUE + 1, Integer.MAX_VALUE - 1
    };

    private Outside() {
    }

    /** The two next to the range first, then the smallest and the greatest int, then others. */
    static int[] of(int last) {
        int[] numbers = new int[4 + FURTHER.length];
        numbers[0] = -1;
        numbers[1] = last + 1;
        numbers[2] = Integer.MIN_VALUE;
        numbers[3] = Integer.MAX_VALUE;
        System.arraycopy(FURTHER, 0, numbers, 4, FURTHER.length);
        return numbers;
    }
}
