import java.util.NoSuchElementException;
import java.util.Random;

/**
 * Random runs of 512 calls, many with wrong arguments. Each call is made on one object; on a twin only if it did not
 * throw there: if a call that throws changed anything, the two would answer differently later. What is thrown must be
 * an exception that the document names for that call, thrown by the class itself, never by the Java machine.
 */
public final class RandomRunsTest {
    private static final int RUNS = 300;
    private static final int CALLS = 512;
    private static final int KINDS = 51;
    private static final String[] THROWS = {
        "AS", "IAS", "I", "A", "A", "IAS", "A", "AS", "I", "I", "IAU", "IU", "I", "IU", "IAS", "I", "I", "I", "I", "IU",
        "IA", "I", "I", "I", "I", "I", "IAS", "I", "I", "IA", "IU", "IU", "IA", "IN", "I", "IAU", "I", "I", "", "I",
        "IU", "IAU", "", "AS", "IAU", "I", "IN", "M", "M", "", ""
    };
    private static final int[] ODD = {
        -1, -2, 5, 12, 13, 24, 51, 97, 99, 100, 199, 200, 201, 1000, -1000, 100000, Integer.MAX_VALUE, Integer.MIN_VALUE
    };

    private final Random random;
    private int oddness;
    private int kind;
    private final int[] numbers = new int[4];
    private boolean is;

    private RandomRunsTest(int seed) {
        random = new Random(seed);
    }

    public static void main(String[] args) {
        for (int seed = 0; seed < RUNS; seed++) {
            new RandomRunsTest(seed).run(seed);
        }
        Check.end("RandomRunsTest");
    }

    private void run(int seed) {
        GalleonWave one = new GalleonWave();
        GalleonWave twin = new GalleonWave();
        oddness = seed % 3 == 0 ? 0 : seed % 3 == 1 ? 5 : 40;
        boolean isBegun = seed % 4 != 0;
        if (isBegun) {
            begin(one, seed);
            begin(twin, seed);
        }
        int calls = 0;
        for (int i = isBegun ? 60 : 0; i < CALLS - 20; i++) {
            choose(i);
            String answer = answer(one);
            if (answer.startsWith("throws ")) {
                Check.due("run " + seed + ", call " + i + " of kind " + kind + " " + answer, isNamed(answer), true);
            } else {
                calls++;
                String other = answer(twin);
                if (!other.equals(answer)) {
                    Check.due("run " + seed + ", call " + i + " of kind " + kind + ": " + answer + " or " + other, 0, 1);
                }
            }
        }
        Check.due("calls of run " + seed, calls > 0, true);
        Check.due("isSound of run " + seed, one.isSound(), true);
        Check.due("checksum of run " + seed, one.checksum(), twin.checksum());
    }

    /** Some forty calls, after which ships are on the air, near one another, towns and lines. */
    private static void begin(GalleonWave x, int seed) {
        x.addLand(900, 900, 1);
        x.addLand(25, 60, 1 + seed % 20);
        x.addAct(0, seed % 50, 200, seed % 8);
        x.addAct(1, seed % 30, seed % 100, seed % 8);
        x.addTown(0, 10, 0, 400);
        x.addTown(1, -10, 10, 300);
        for (int i = 0; i < 2 + seed % 3; i++) {
            Scene.addStation(x, (i % 2 * 5 + i / 2 * 40) * (seed % 5 == 0 ? 5 : 1), i, seed % 3 + i % 2, 20 + 5 * i);
            x.sell(i, 20);
        }
        x.addPerson(1, 'e');
        x.addPerson(1, 'd');
    }

    private boolean isNamed(String answer) {
        String name = answer.substring("throws ".length());
        String letter = name.equals("IndexOutOfBoundsException") ? "I"
                : name.equals("IllegalArgumentException") ? "A"
                : name.equals("IllegalStateException") ? "S"
                : name.equals("UnsupportedOperationException") ? "U"
                : name.equals("NoSuchElementException") ? "N"
                : name.equals("ArithmeticException") ? "M" : "?";
        return THROWS[kind].contains(letter);
    }

    private void choose(int call) {
        int[] builders = {0, 7, 14, 26, 29, 30, 31, 20, 15, 5, 10, 1, 32};
        kind = call < 60 && random.nextInt(4) != 0 ? builders[random.nextInt(builders.length)] : random.nextInt(KINDS);
        is = random.nextBoolean();
        for (int i = 0; i < numbers.length; i++) {
            numbers[i] = number(kind, i);
        }
    }

    private int number(int kind, int place) {
        if (random.nextInt(100) < oddness) {
            return ODD[random.nextInt(ODD.length)];
        }
        switch (kind) {
            case 0:
                return place == 2 ? 1 + random.nextInt(20) : random.nextInt(401) - 200;
            case 1:
                return place == 0 ? few() : place == 1 ? random.nextInt(2000)
                        : place == 2 ? random.nextInt(200) : random.nextInt(8);
            case 3:
                return place == 0 ? random.nextInt(random.nextInt(3) == 0 ? 13 : 8) : "nesw".charAt(random.nextInt(4));
            case 4:
                return random.nextInt(7) - 3;
            case 5:
                return place == 0 ? few() : place == 3 ? 1 + random.nextInt(999) : random.nextInt(201) - 100;
            case 6:
                return 1 + random.nextInt(random.nextInt(3) == 0 ? 96 : 5);
            case 7:
                return random.nextInt(101) - 50;
            case 10:
                return place == 0 ? few() : "smr".charAt(random.nextInt(3));
            case 14:
                return place == 0 ? few() : place == 1 ? 1 + random.nextInt(50) : 1 + random.nextInt(3000);
            case 15:
                return place == 0 ? few() : random.nextInt(2);
            case 20:
                return place == 0 ? few() : random.nextInt(49);
            case 26:
                return place == 0 ? few() : "dde".charAt(random.nextInt(3));
            case 29:
                return place == 0 ? few() : place == 1 ? random.nextInt(9999)
                        : place == 2 ? random.nextInt(300) : random.nextInt(6) - 1;
            case 32:
                return place == 0 ? few() : place == 1 ? random.nextInt(24)
                        : is ? random.nextInt(12) : 100 + random.nextInt(5);
            case 35:
                return place == 0 ? few() : 1 + random.nextInt(20);
            case 43:
                return place == 0 ? random.nextInt(4) - 1 : place == 1 ? random.nextInt(4) - 1 : random.nextInt(6) - 1;
            default:
                return random.nextInt(3) == 0 ? random.nextInt(12) : few();
        }
    }

    private int few() {
        return random.nextInt(4);
    }

    private String answer(GalleonWave x) {
        try {
            return kind < 26 ? answerOfShips(x) : answerOfPeople(x);
        } catch (IndexOutOfBoundsException | IllegalArgumentException | IllegalStateException
                | UnsupportedOperationException | NoSuchElementException | ArithmeticException e) {
            boolean isOwn = e.getStackTrace()[0].getClassName().startsWith("GalleonWave");
            return "throws " + e.getClass().getSimpleName() + (isOwn ? "" : " of the machine");
        }
    }

    private String answerOfShips(GalleonWave x) {
        int a = numbers[0];
        int b = numbers[1];
        int c = numbers[2];
        int d = numbers[3];
        switch (kind) {
            case 0: return "" + x.addLand(a, b, c);
            case 1: return "" + x.addAct(a, b, c, d);
            case 2: return "" + x.getLine(a);
            case 3: return "" + x.setWind(a, (char) b);
            case 4: return "" + x.setTide(a, b);
            case 5: return "" + x.addTown(a, b, c, d);
            case 6: return "" + x.pass(a);
            case 7: return "" + x.addShip(a, b);
            case 8: return "" + x.getPlace(a, is);
            case 9: return "" + x.getInside(a);
            case 10: return "" + x.anchor(a, (char) b);
            case 11: return "" + x.weigh(a);
            case 12: return "" + x.isAground(a);
            case 13: return "" + x.pullOff(a);
            case 14: return "" + x.addGenerator(a, b, c);
            case 15: return "" + x.setGenerator(a, b, is || a % 2 == 0);
            case 16: return "" + x.getFuel(a);
            case 17: return "" + x.getFood(a);
            case 18: return "" + x.getSalt(a);
            case 19: return "" + x.wash(a);
            case 20: return "" + x.setPower(a, b);
            case 21: return "" + x.getChannel(a);
            case 22: return "" + x.isOnAir(a);
            case 23: return "" + x.getSignal(a, b);
            case 24: return "" + x.getHeard(a);
            default: return "" + x.getListeners(a);
        }
    }

    private String answerOfPeople(GalleonWave x) {
        int a = numbers[0];
        int b = numbers[1];
        int c = numbers[2];
        switch (kind) {
            case 26: return "" + x.addPerson(a, (char) b);
            case 27: return "" + x.getAboard(a);
            case 28: return "" + x.isTired(a);
            case 29: return "" + x.load(a, b, c, numbers[3]);
            case 30: return "" + x.book(a, b, is);
            case 31: return "" + x.send(a, b, is);
            case 32: return "" + x.plan(a, b, c);
            case 33: return "" + x.getSpeaker(a);
            case 34: return "" + x.isMutiny(a);
            case 35: return "" + x.sell(a, b);
            case 36: return "" + x.bank(a);
            case 37: return "" + x.getEarned(a);
            case 38: return "" + x.getMoney();
            case 39: return "" + x.getEvidence(a);
            case 40: return "" + x.raid(a, b);
            case 41: return "" + x.board(a, b);
            case 42: return "" + x.getKept();
            case 43: return "" + x.addRecording(a, b, c);
            case 44: return "" + x.addAhead(a, b);
            case 45: return "" + x.getChoices(a);
            case 46: return "" + x.getDate(a, is);
            case 47: return "" + x.getNightShare();
            case 48: return "" + x.getMeanCrew();
            case 49: return "" + x.checksum();
            default: return "" + x.isSound();
        }
    }
}
