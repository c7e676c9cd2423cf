import java.util.NoSuchElementException;

/** Asks for boundary cases. Each is asked on a sea of its own, so that none leans on another. */
final class Bounds {
    static final Class<IndexOutOfBoundsException> INDEX = IndexOutOfBoundsException.class;
    static final Class<IllegalArgumentException> ARGUMENT = IllegalArgumentException.class;
    static final Class<IllegalStateException> STATE = IllegalStateException.class;
    static final Class<UnsupportedOperationException> UNSUPPORTED = UnsupportedOperationException.class;
    static final Class<NoSuchElementException> NO_ELEMENT = NoSuchElementException.class;
    static final Class<ArithmeticException> ARITHMETIC = ArithmeticException.class;

    interface Sea {
        GalleonWave make();
    }

    interface Use {
        void on(GalleonWave x);
    }

    interface NumberUse {
        void on(GalleonWave x, int number);
    }

    interface LetterUse {
        void on(GalleonWave x, char letter);
    }

    private Bounds() {
    }

    static void taken(String what, Sea sea, Use use) {
        GalleonWave x = sea.make();
        String thrown = "nothing";
        try {
            use.on(x);
        } catch (RuntimeException e) {
            thrown = "" + e;
        }
        Check.due(what + " is taken, but threw " + thrown, thrown.equals("nothing"), true);
    }

    /** The very exception is thrown, and the sea answers from then on as one on which the call was not made. */
    static void refused(String what, Class<? extends RuntimeException> want, Sea sea, Use use) {
        GalleonWave x = sea.make();
        Check.dueThrow(what, want, () -> use.on(x));
        String[] got = Probe.transcript(x).split("\n");
        String[] due = Probe.transcript(sea.make()).split("\n");
        for (int i = 0; i < due.length; i++) {
            Check.due(what + " changes nothing, but " + got[i] + " is due as " + due[i], got[i].equals(due[i]), true);
        }
    }

    /** All numbers of a range are taken, but those next to it and the farthest ones are refused. */
    static void range(String what, int least, int most, Sea sea, NumberUse use) {
        int step = Math.max(1, (most - least) / 50);
        for (int n = least; n <= most; n += step) {
            int number = n;
            taken(what + " " + number, sea, x -> use.on(x, number));
        }
        taken(what + " " + most, sea, x -> use.on(x, most));
        outside(what, ARGUMENT, least, most, sea, use);
    }

    /** Numbers from 0 are taken up to how many there are; the same for those that are not. */
    static void numbers(String what, int count, Sea sea, NumberUse use) {
        for (int n = 0; n < count; n++) {
            int number = n;
            taken(what + " " + number, sea, x -> use.on(x, number));
        }
        outside(what, INDEX, 0, count - 1, sea, use);
    }

    static void outside(String what, Class<? extends RuntimeException> want, int least, int most, Sea sea,
            NumberUse use) {
        int[] outside = {least - 1, most + 1, Integer.MIN_VALUE, Integer.MAX_VALUE, least - 256, most + 256};
        for (int number : outside) {
            refused(what + " " + number, want, sea, x -> use.on(x, number));
        }
    }

    /** Of all characters these alone are taken. */
    static void letters(String what, String letters, Sea sea, LetterUse use) {
        GalleonWave x = sea.make();
        for (int i = 0; i <= Character.MAX_VALUE; i++) {
            char letter = (char) i;
            if (letters.indexOf(letter) >= 0) {
                taken(what + " " + letter, sea, y -> use.on(y, letter));
            } else {
                Check.dueThrow(what + " number " + i, ARGUMENT, () -> use.on(x, letter));
            }
        }
        refused(what + " x", ARGUMENT, sea, y -> use.on(y, 'x'));
        refused(what + " 0", ARGUMENT, sea, y -> use.on(y, (char) 0));
    }
}
