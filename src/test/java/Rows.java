/** Long rows of bytes that tests use. */
final class Rows {
    /** 96 bytes x. */
    static final String ALIKE = "x".repeat(96);
    /** 96 bytes, each greater than the one before, the last of them 255. */
    static final String RISING = rising();
    /** The same bytes, each less than the one before. */
    static final String FALLING = new StringBuilder(RISING).reverse().toString();

    private Rows() {
    }

    private static String rising() {
        StringBuilder row = new StringBuilder();
        for (int b = 160; b < 256; b++) {
            row.append((char) b);
        }
        return row.toString();
    }
}
