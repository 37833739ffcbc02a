import java.util.function.LongSupplier;

/** Compares answers with those that are due; prints each that is not; ends with code 1 if one was not. */
final class Checks {
    private final String title;
    private int asked = 0;
    private int wrong = 0;

    Checks(String title) {
        this.title = title;
    }

    void due(String call, long got, long want) {
        asked++;
        if (got != want) {
            wrong++;
            System.out.println(title + ": " + call + " answered " + got + ", due is " + want);
        }
    }

    /** A refusal: its number, and that nothing has changed by it. */
    void refuses(RammedCobbles x, String call, LongSupplier asking, long want) {
        long before = x.digest();
        due(call, asking.getAsLong(), want);
        due(call + " changes nothing", x.digest(), before);
    }

    /** A call that only looks: its answer, and that nothing has changed by it. */
    void looks(RammedCobbles x, String call, LongSupplier asking, long want) {
        refuses(x, call, asking, want);
    }

    void cells(RammedCobbles x, String told, int what, int... want) {
        due(told + ": cells", x.count(0), want.length);
        for (int cell = 0; cell < want.length; cell++) {
            due(told + ": cell(" + cell + ", " + what + ")", x.cell(cell, what), want[cell]);
        }
    }

    void end() {
        System.out.println(title + ": " + asked + " answers, " + wrong + " not as due");
        if (wrong != 0) {
            System.exit(1);
        }
    }

    static long packed(String text) {
        long w = 0;
        for (int i = text.length() - 1; i >= 0; i--) {
            w = w << 8 | text.charAt(i);
        }
        return w;
    }

    static void write(RammedCobbles x, String text) {
        for (int i = 0; i < text.length(); i += 8) {
            x.letters(packed(text.substring(i, Math.min(text.length(), i + 8))));
        }
    }

    static RammedCobbles streetOf(String text) {
        RammedCobbles x = new RammedCobbles();
        write(x, text);
        x.street();
        return x;
    }

    static RammedCobbles streetOf(String text, String carts) {
        RammedCobbles x = streetOf(text);
        write(x, carts);
        x.carts();
        return x;
    }

    static long digestOf(long... numbers) {
        long h = 509;
        for (long number : numbers) {
            h = 31 * h + number;
        }
        return h;
    }
}
