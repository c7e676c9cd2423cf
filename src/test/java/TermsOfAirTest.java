/** Sentences of the Terms about who is on the air, signals, and who is heard: each on both sides of its boundary. */
public final class TermsOfAirTest {
    public static void main(String[] args) {
        crystals();
        powerAndOneMore();
        powerOfTwo();
        powerOfThoseThatRan();
        eachAlone();
        somebodyAboard();
        inThatHour();
        putsOut();
        putsOutForNothing();
        signalOfSquare();
        signalByNight();
        heardFromTwenty();
        twiceTheOther();
        twiceAllOthers();
        othersOfThatChannel();
        othersOnTheAir();
        strongestOfThoseHeard();
        lowestOfLike();
        eachTown();
        listenersOfHour();
        Check.end("TermsOfAirTest");
    }

    /** "A ship has a crystal for a channel, 0 to 9, or none" */
    private static void crystals() {
        for (int channel = -1; channel <= 9; channel++) {
            GalleonWave x = Scene.sea();
            Scene.addStation(x, 0, 0, channel, 20);
            Check.due("channel", x.getChannel(0), channel);
            x.pass(1);
            Check.due("on the air on " + channel, x.isOnAir(0), channel >= 0);
            Check.due("kept on " + channel, x.getKept(), channel >= 0 ? 1 : 0);
        }
    }

    /** A ship with a crystal, somebody aboard, and one generator of that power. */
    private static GalleonWave sender(int generator, int power) {
        GalleonWave x = Scene.sea();
        x.addShip(0, 0);
        x.addPerson(0, 'e');
        x.addGenerator(0, generator, 9999);
        x.setGenerator(0, 0, true);
        x.load(0, 9999, 99, 0);
        x.book(0, 0, true);
        x.send(0, 0, false);
        x.setPower(0, power);
        return x;
    }

    /** "its generators that ran in that hour have as much power as that and 1 more", "a power, 0 to 50, 0 for not" */
    private static void powerAndOneMore() {
        for (int generator = 1; generator <= 50; generator++) {
            int[] powers = {0, 1, generator - 2, generator - 1, generator, generator + 1, 50};
            for (int power : powers) {
                if (power >= 0 && power <= 50) {
                    GalleonWave x = sender(generator, power);
                    x.pass(1);
                    Check.due(power + " of " + generator, x.isOnAir(0), power > 0 && generator >= power + 1);
                }
            }
        }
    }

    private static void powerOfTwo() {
        int[][] cases = {{10, 10, 19}, {10, 10, 20}, {50, 1, 50}, {50, 50, 50}, {1, 1, 1}, {1, 1, 2}, {3, 50, 50}};
        for (int[] of : cases) {
            GalleonWave x = sender(of[0], of[2]);
            x.addGenerator(0, of[1], 99);
            x.pass(1);
            Check.due("the second one off", x.isOnAir(0), of[0] > of[2]);
            x.setGenerator(0, 1, true);
            x.pass(1);
            Check.due("both", x.isOnAir(0), of[0] + of[1] > of[2]);
            x.setGenerator(0, 0, false);
            x.pass(1);
            Check.due("the second one", x.isOnAir(0), of[1] > of[2]);
        }
    }

    /** It is not enough that they are on: fuel and life must have let them run. */
    private static void powerOfThoseThatRan() {
        GalleonWave x = Scene.sea();
        x.addShip(0, 0);
        x.addPerson(0, 'e');
        x.addGenerator(0, 10, 2);
        x.addGenerator(0, 6, 99);
        x.setGenerator(0, 0, true);
        x.setGenerator(0, 1, true);
        x.load(0, 48, 99, 0);
        x.book(0, 0, true);
        x.send(0, 0, false);
        x.setPower(0, 15);
        x.pass(2);
        Check.due("15 of 16, in the last hour of 0", x.isOnAir(0), true);
        x.pass(1);
        Check.due("15 of 6", x.isOnAir(0), false);
        x.setPower(0, 5);
        x.pass(1);
        Check.due("5 of 6 on the last fuel", x.isOnAir(0), true);
        Check.due("4 litres are left", x.getFuel(0), 4);
        x.pass(1);
        Check.due("5 of none", x.isOnAir(0), false);
        Check.due("4 hours are kept, less one", x.getKept(), 3);
    }

    /** "if it has a crystal, sends, its generators .., and somebody is aboard": each is missing alone. */
    private static void eachAlone() {
        for (int missing = 0; missing <= 4; missing++) {
            GalleonWave x = Scene.sea();
            x.addShip(0, 0);
            x.addPerson(0, 'd');
            x.addGenerator(0, 20, 9999);
            x.setGenerator(0, 0, missing != 1);
            x.load(0, 9999, 99, missing == 2 ? -1 : 5);
            x.book(0, 0, missing != 3);
            x.send(0, 0, false);
            x.setPower(0, missing == 4 ? 0 : 19);
            x.pass(1);
            Check.due("without " + missing, x.isOnAir(0), missing == 0);
            Check.due("kept without " + missing, x.getKept(), missing == 0 ? 1 : 0);
            Check.due("fuel used without " + missing, x.getFuel(0), missing == 1 ? 9999 : 9979);
        }
    }

    private static void somebodyAboard() {
        GalleonWave x = sender(20, 9);
        x.addShip(0, 0);
        x.addGenerator(1, 20, 99);
        x.setGenerator(1, 0, true);
        x.setPower(1, 9);
        Scene.supply(x, 1, 999, 99, 7);
        x.addPerson(0, 'd');
        x.pass(1);
        Check.due("an engineer is somebody", x.isOnAir(0), true);
        Check.due("one on another ship is nobody here", x.isOnAir(1), false);
        x.book(0, 1, true);
        x.pass(1);
        Check.due("one booked is nobody yet", x.isOnAir(1), false);
        x.send(0, 1, false);
        x.pass(1);
        Check.due("one aboard", x.isOnAir(1), true);
    }

    /** "Tells whether a ship was on the air in the last hour": not whether it would be now. */
    private static void inThatHour() {
        GalleonWave x = sender(20, 9);
        Check.due("no hour yet", x.isOnAir(0), false);
        x.pass(1);
        x.setPower(0, 0);
        Check.due("it was", x.isOnAir(0), true);
        x.pass(1);
        x.setPower(0, 9);
        Check.due("it was not", x.isOnAir(0), false);
        x.pass(96);
        x.setGenerator(0, 0, false);
        Check.due("in the last of many", x.isOnAir(0), true);
        x.pass(2);
        Check.due("not in the last two", x.isOnAir(0), false);
    }

    /** "its power times 10 less the salt, divided by 10, rounded down" */
    private static void putsOut() {
        int[][] due = {
            {50, 0, 50}, {50, 1, 45}, {50, 8, 10}, {49, 8, 9}, {45, 8, 9}, {19, 1, 17}, {11, 1, 9}, {10, 1, 9},
            {9, 1, 8}, {5, 8, 1}, {4, 8, 1}, {9, 8, 1}, {10, 8, 2}, {3, 3, 2}, {1, 1, 1}, {1, 0, 1}, {2, 6, 1}, {2, 5, 1}
        };
        for (int[] of : due) {
            Check.due(of[0] + " with salt of " + of[1], signalWith(of[0], of[1]), 200 * of[2]);
        }
    }

    /** The signal by night at the very place of a ship with that power and salt. */
    private static int signalWith(int power, int salt) {
        GalleonWave x = Scene.sea();
        x.addTown(0, 0, 0, 5);
        x.addShip(0, 0);
        x.anchor(0, 's');
        x.setPower(0, power);
        x.setWind(7, 'n');
        if (salt > 0) {
            x.pass(salt);
        }
        x.setWind(0, 'n');
        if (salt >= 6) {
            x.pass(18 - salt);
        }
        return x.getSignal(0, 0);
    }

    /** "1 at least, also for 0" */
    private static void putsOutForNothing() {
        for (int salt = 0; salt <= 8; salt++) {
            Check.due("0 with salt of " + salt, signalWith(0, salt), 200);
            Check.due("1 with salt of " + salt, signalWith(1, salt), 200);
            Check.due("2 with salt of " + salt, signalWith(2, salt), salt == 0 ? 400 : 200);
        }
    }

    /** "1000 times what it puts out, .. divided by the square of how far they are apart, and 10", rounded down */
    private static void signalOfSquare() {
        int[] far = {0, 1, 2, 3, 9, 10, 31, 32, 99, 100, 316, 317, 999};
        for (int east : far) {
            for (int power = 1; power <= 50; power += 7) {
                GalleonWave x = Scene.sea();
                x.addShip(0, 0);
                x.addTown(0, east, -east / 2, 5);
                x.addTown(0, east / 3, east, 5);
                x.setPower(0, power);
                x.pass(6);
                Check.due(power + " by day from " + east, x.getSignal(0, 0), 1000 * power / (east * east + 10));
                Check.due(power + " by day from " + east, x.getSignal(0, 1), 1000 * power / (east * east + 10));
            }
        }
    }

    /** "by night twice that": twice what is divided, not twice what comes out. */
    private static void signalByNight() {
        GalleonWave x = Scene.sea();
        x.addShip(0, 0);
        x.addTown(0, 40, 0, 5);
        x.setPower(0, 20);
        for (int hour = 0; hour < 30; hour++) {
            boolean isNight = hour % 24 < 6 || hour % 24 > 17;
            Check.due("20 at hour " + hour, x.getSignal(0, 0), isNight ? 40000 / 1610 : 20000 / 1610);
            x.pass(1);
        }
        x.setPower(0, 21);
        Check.due("21 by day", x.getSignal(0, 0), 13);
        x.pass(12);
        Check.due("21 by night", x.getSignal(0, 0), 26);
        x.setPower(0, 23);
        Check.due("23 by night, more than twice 14", x.getSignal(0, 0), 28);
        x.setPower(0, 18);
        Check.due("18 by night is 22.4, more than twice 11.2", x.getSignal(0, 0), 22);
        x.setPower(0, 22);
        Check.due("22 by night is 27.3, not twice 13", x.getSignal(0, 0), 27);
    }

    /** "is heard, if its signal is 20 or more" */
    private static void heardFromTwenty() {
        for (int power = 1; power <= 40; power++) {
            GalleonWave x = Scene.sea();
            x.addTown(0, 40, 0, 5);
            Scene.addStation(x, 0, 0, 3, power);
            int signal = x.getSignal(0, 0);
            Check.due("signal of " + power, signal, power * 2000 / 1610);
            x.pass(1);
            Check.due("heard with a signal of " + signal, x.getHeard(0), signal >= 20 ? 0 : -1);
            Check.due("listened to with a signal of " + signal, x.getListeners(0), signal >= 20 ? 5 : 0);
        }
    }

    /** "and twice that of all others of that channel together, or more" */
    private static void twiceTheOther() {
        for (int power = 1; power <= 49; power++) {
            GalleonWave x = Scene.sea();
            x.addTown(0, 0, 0, 5);
            Scene.addStation(x, 30, 0, 3, 12);
            Scene.addStation(x, 0, -30, 3, power);
            int one = 24000 / 910;
            int other = power * 2000 / 910;
            Check.due("the one", x.getSignal(0, 0), one);
            Check.due("the other", x.getSignal(1, 0), other);
            x.pass(1);
            int due = one >= 2 * other ? 0 : other >= 2 * one ? 1 : -1;
            Check.due(one + " and " + other, x.getHeard(0), due);
        }
    }

    private static void twiceAllOthers() {
        int[][] powers = {{30, 5, 5, 5}, {30, 5, 5, 6}, {5, 30, 6, 4}, {5, 30, 6, 5}, {5, 4, 6, 30}, {8, 4, 4, 30}, {1, 1, 4, 12}};
        for (int[] of : powers) {
            GalleonWave x = Scene.sea();
            x.addTown(0, 0, 0, 5);
            int sum = 0;
            int strongest = 0;
            for (int i = 0; i < 4; i++) {
                Scene.addStation(x, 0, 0, 3, of[i]);
                sum += of[i];
                strongest = of[i] > of[strongest] ? i : strongest;
            }
            x.pass(1);
            boolean isHeard = of[strongest] >= 2 * (sum - of[strongest]);
            Check.due("the strongest of " + sum, x.getHeard(0), isHeard ? strongest : -1);
        }
    }

    private static void othersOfThatChannel() {
        GalleonWave x = Scene.sea();
        x.addTown(0, 0, 0, 5);
        Scene.addStation(x, 0, 0, 3, 30);
        Scene.addStation(x, 0, 0, 4, 29);
        Scene.addStation(x, 0, 0, 2, 29);
        x.pass(1);
        Check.due("others on other channels", x.getHeard(0), 0);
        Scene.supply(x, 1, 0, 0, 3);
        x.pass(1);
        Check.due("the third one, if the first two disturb each other", x.getHeard(0), 2);
        x.setPower(1, 15);
        x.pass(1);
        Check.due("half as strong on the same channel", x.getHeard(0), 0);
    }

    /** A ship that is not on the air disturbs nobody, whatever its power. */
    private static void othersOnTheAir() {
        GalleonWave x = Scene.sea();
        x.addTown(0, 0, 0, 5);
        Scene.addStation(x, 0, 0, 3, 30);
        Scene.addStation(x, 0, 0, 3, 50);
        x.pass(1);
        Check.due("50 of 50 is not on the air", x.getHeard(0), 0);
        x.setPower(1, 49);
        x.pass(1);
        Check.due("49 of 50 is", x.getHeard(0), -1);
        x.setGenerator(1, 0, false);
        x.pass(1);
        Check.due("without its generator it is not", x.getHeard(0), 0);
    }

    /** "each listens to the ship with the strongest signal of those that it hears" */
    private static void strongestOfThoseHeard() {
        GalleonWave x = Scene.sea();
        x.addTown(0, 0, 0, 5);
        Scene.addStation(x, 0, 0, 1, 40);
        Scene.addStation(x, 0, 0, 1, 41);
        Scene.addStation(x, 0, 0, 2, 20);
        Scene.addStation(x, 0, 0, 3, 19);
        x.pass(1);
        Check.due("not the strongest, which it does not hear", x.getHeard(0), 2);
        x.setPower(3, 21);
        x.pass(1);
        Check.due("21 and 20", x.getHeard(0), 3);
        x.setPower(1, 20);
        x.pass(1);
        Check.due("40 and half of that", x.getHeard(0), 0);
    }

    /** "of like ones the lowest number" */
    private static void lowestOfLike() {
        for (int strong = 0; strong < 4; strong++) {
            GalleonWave x = Scene.sea();
            x.addTown(0, 0, 0, 5);
            for (int i = 0; i < 4; i++) {
                Scene.addStation(x, i % 2 == 0 ? 7 : -7, i, 9 - i, i < strong ? 19 : 20);
            }
            x.pass(1);
            Check.due("of " + strong + " to 3", x.getHeard(0), strong);
        }
        GalleonWave rounded = Scene.sea();
        rounded.addTown(0, 50, 0, 5);
        Scene.addStation(rounded, 0, 0, 1, 30);
        Scene.addStation(rounded, 0, 0, 2, 31);
        Check.due("30", rounded.getSignal(0, 0), 23);
        Check.due("31", rounded.getSignal(1, 0), 24);
        rounded.setPower(0, 29);
        rounded.setPower(1, 30);
        rounded.pass(1);
        Check.due("23.1 and 23.9 are like ones", rounded.getHeard(0), 0);
    }

    /** Each town hears for itself, also six of them. */
    private static void eachTown() {
        GalleonWave x = Scene.sea();
        for (int i = 0; i < 6; i++) {
            x.addTown(0, 50 * i, 0, 1 << i);
            Check.due("nobody yet", x.getHeard(i), -1);
        }
        Scene.addStation(x, 0, 0, 3, 20);
        Check.due("nobody ahead of an hour", x.getHeard(0), -1);
        Scene.addStation(x, 250, 0, 3, 20);
        x.pass(1);
        int[] heard = {0, -1, -1, -1, -1, 1};
        for (int i = 0; i < 6; i++) {
            Check.due("town " + i, x.getHeard(i), heard[i]);
        }
        Check.due("of the first", x.getListeners(0), 1);
        Check.due("of the last", x.getListeners(1), 32);
        x.setPower(0, 49);
        x.setPower(1, 0);
        x.pass(1);
        Check.due("as far as 50", x.getHeard(1), 0);
        Check.due("as far as 100", x.getHeard(2), -1);
        Check.due("of both", x.getListeners(0), 3);
        Check.due("of none", x.getListeners(1), 0);
        GalleonWave late = Scene.station();
        late.pass(1);
        late.addTown(0, 0, 0, 5);
        Check.due("a town that is new did not listen", late.getHeard(0), -1);
    }

    /** "Returns how many thousands listened to a ship in the last hour." */
    private static void listenersOfHour() {
        GalleonWave x = Scene.sea();
        for (int i = 0; i < 6; i++) {
            x.addTown(0, i, 0, 999);
        }
        Scene.addStation(x, 0, 0, 3, 20);
        Check.due("no hour yet", x.getListeners(0), 0);
        x.pass(1);
        Check.due("as many as can be", x.getListeners(0), 6 * 999);
        x.pass(2);
        Check.due("not added up", x.getListeners(0), 6 * 999);
        x.setPower(0, 0);
        Check.due("in the last hour", x.getListeners(0), 6 * 999);
        x.pass(1);
        Check.due("off the air", x.getListeners(0), 0);
        Check.due("nobody is heard", x.getHeard(0), -1);
    }
}
