/** Counts answers that are not the ones that are due, and feeds texts to objects. */
final class Checks {
    private int wrong = 0;
    private int made = 0;

    void due(String call, long got, long want) {
        made++;
        if (got != want) {
            wrong++;
            if (wrong <= 50) {
                System.out.println(call + " answered " + got + ", due is " + want);
            }
        }
    }

    void due(String call, String got, String want) {
        made++;
        if (!got.equals(want)) {
            wrong++;
            if (wrong <= 50) {
                System.out.println(call + " answered " + got + ", due is " + want);
            }
        }
    }

    void due(String call, double got, double want) {
        made++;
        if (got != want) {
            wrong++;
            System.out.println(call + " answered " + got + ", due is " + want);
        }
    }

    /** An answer with the TROUBLE that must stand behind it. */
    void due(String call, ShellPeel x, long got, long want, int trouble) {
        due(call, got, want);
        due(call + ", trouble()", x.trouble(), trouble);
    }

    void dueBreak(String call, ShellPeel x, int i, int want) {
        int got;
        try {
            got = x.breaks(i);
        } catch (java.util.NoSuchElementException e) {
            got = -99;
        }
        due(call, got, want);
    }

    void end(String name) {
        System.out.println(name + ": " + made + " answers, " + wrong + " not as due");
        if (wrong != 0) {
            System.exit(1);
        }
    }

    /** Feeds a text, padded with blanks to whole feeds. */
    static void feed(ShellPeel x, String text) {
        feed(x, text, ' ');
    }

    static void feed(ShellPeel x, String text, char pad) {
        for (int from = 0; from < text.length(); from += 20) {
            int[] words = new int[5];
            for (int i = 0; i < 20; i++) {
                int sign = from + i < text.length() ? text.charAt(from + i) : pad;
                words[i / 4] |= (sign & 255) << (24 - 8 * (i % 4));
            }
            x.feed(words[0], words[1], words[2], words[3], words[4]);
        }
    }

    static int tell(ShellPeel x, String text) {
        feed(x, text);
        return x.complex(text.length());
    }

    /** The text of a complex, with facets parted by blanks. */
    static String text(int points, int size, String facets) {
        StringBuilder text = new StringBuilder("complex points " + points + " size " + size);
        for (String facet : facets.trim().split(" +")) {
            text.append(";facet ").append(facet);
        }
        return text.toString();
    }

    static ShellPeel made(int points, int size, String facets) {
        ShellPeel x = new ShellPeel();
        String text = text(points, size, facets);
        int got = tell(x, text);
        if (got != facets.trim().split(" +").length) {
            throw new IllegalStateException("a test's own complex was refused: " + text + " fault " + x.fault() + " at " + x.where());
        }
        return x;
    }

    static String word(int set) {
        StringBuilder word = new StringBuilder();
        for (int p = 0; p < 7; p++) {
            if ((set >> p & 1) == 1) {
                word.append((char) ('a' + p));
            }
        }
        return word.toString();
    }
}
