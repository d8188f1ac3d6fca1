/** Counts and prints the answers that are not as due, and ends with exit code 1 if there was one. */
final class Due {
    private final String test;
    private int checked = 0;
    private int wrong = 0;

    Due(String test) {
        this.test = test;
    }

    void is(String call, long got, long want) {
        checked++;
        if (got != want) {
            wrong++;
            System.out.println(test + ": " + call + " answered " + got + ", due is " + want);
        }
    }

    void end() {
        System.out.println(test + ": " + checked + " answers, " + wrong + " not as due");
        if (wrong != 0 || checked == 0) {
            System.exit(1);
        }
    }

    /** A sheet gets a new row of a lane with these numbers. */
    static void write(SkipStones x, int k, int lane, int... numbers) {
        x.sheet(k, lane, numbers.length);
        for (int i = 0; i < numbers.length; i++) {
            x.put(k, i, numbers[i]);
        }
    }

    /** The law by a text, written on sheet 3 as bytes. */
    static int law(SkipStones x, String text) {
        x.sheet(3, 0, text.length());
        for (int i = 0; i < text.length(); i++) {
            x.put(3, i, text.charAt(i));
        }
        return x.law(3, 0, 0, text.length());
    }

    /** Waves by these numbers, written on sheet 3 as ints. */
    static int waves(SkipStones x, int... numbers) {
        write(x, 3, 2, numbers);
        return x.waves(3, 2, 0, numbers.length);
    }

    /** Rings at these places, written on sheet 3 as ints. */
    static int rings(SkipStones x, int... places) {
        write(x, 3, 2, places);
        return x.rings(3, 2, 0, places.length);
    }
}
