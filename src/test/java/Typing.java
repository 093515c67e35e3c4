/** Types whole rows, whose characters 0 to 255 are the bytes. */
final class Typing {
    private Typing() {
    }

    static long bits(String row) {
        long bits = 0;
        for (int i = 0; i < row.length(); i++) {
            bits = bits << 8 | row.charAt(i);
        }
        return bits;
    }

    static void type(ColumnIndex x, String row) {
        for (int i = 0; i < row.length(); i += 8) {
            String part = row.substring(i, Math.min(i + 8, row.length()));
            x.type(bits(part), part.length());
        }
    }

    static int build(ColumnIndex x, String row) {
        type(x, row);
        return x.build();
    }

    static int seek(ColumnIndex x, String row) {
        type(x, row);
        return x.seek();
    }

    static ColumnIndex built(String row) {
        ColumnIndex x = new ColumnIndex();
        build(x, row);
        return x;
    }
}
