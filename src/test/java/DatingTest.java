import java.util.NoSuchElementException;
import java.util.Random;

/** Promises 46 to 48 and 52 on many small seas: dates are compared with those of all datings, tried one by one. */
public final class DatingTest {
    private static final int SEAS = 400;

    private final Random random;
    private final GalleonWave x = Scene.sea();
    private final int[][] kept = new int[400][];
    private int keptCount = 0;
    private final int[][] told = new int[6][];
    private final boolean[][] ahead = new boolean[6][6];
    private int recordings = 0;
    private final int[] earliest = new int[6];
    private final int[] latest = new int[6];

    private DatingTest(int seed) {
        random = new Random(seed);
    }

    public static void main(String[] args) {
        for (int seed = 0; seed < SEAS; seed++) {
            new DatingTest(seed).compare();
        }
        Check.end("DatingTest");
    }

    private void compare() {
        int ships = 1 + random.nextInt(4);
        for (int i = 0; i < ships; i++) {
            Scene.addStation(x, 300 * i, 0, random.nextInt(2), 1 + random.nextInt(30));
            x.addGenerator(i, 40, 99);
        }
        int hours = 1 + random.nextInt(6);
        for (int i = 0; i < hours; i++) {
            passHour(ships);
        }
        int many = 1 + random.nextInt(6);
        for (int i = 0; i < many; i++) {
            told[i] = new int[] {random.nextInt(3) - 1, random.nextInt(4) == 0 ? random.nextInt(4) : -1, who(ships)};
            x.addRecording(told[i][0], told[i][1], told[i][2]);
            recordings++;
        }
        tellAheads(many);
        dateAll();
        for (int i = 0; i < many; i++) {
            compareRecording(i);
        }
        Check.due("isSound", x.isSound(), true);
    }

    private int who(int ships) {
        int kind = random.nextInt(6);
        return kind == 0 ? random.nextInt(ships) : kind == 1 ? 100 + random.nextInt(2) : -1;
    }

    private void passHour(int ships) {
        for (int i = 0; i < ships; i++) {
            x.setGenerator(i, 1, random.nextBoolean());
            x.setPower(i, random.nextInt(4) == 0 ? 0 : 1 + random.nextInt(30));
            x.plan(i, random.nextInt(7), random.nextInt(3) == 0 ? -1 : 100 + random.nextInt(2));
        }
        int[] ran = new int[ships];
        for (int i = 0; i < ships; i++) {
            ran[i] = -x.setGenerator(i, 1, false);
            x.setGenerator(i, 1, random.nextBoolean());
        }
        int hour = x.pass(1) - 1;
        for (int i = 0; i < ships; i++) {
            ran[i] += x.setGenerator(i, 1, false);
            if (x.isOnAir(i)) {
                kept[keptCount++] = new int[] {hour, x.getChannel(i), 1 + 2 * ran[i], x.getSpeaker(i)};
            }
        }
        Check.due("getKept", x.getKept(), keptCount);
    }

    private void tellAheads(int many) {
        int tries = random.nextInt(2 * many);
        int count = 0;
        for (int i = 0; i < tries; i++) {
            int one = random.nextInt(many);
            int other = random.nextInt(many);
            if (one == other) {
                continue;
            }
            if (ahead[one][other] || isAhead(other, one, 0)) {
                Check.dueUnsupported("addAhead", () -> x.addAhead(one, other));
            } else {
                count++;
                Check.due("addAhead", x.addAhead(one, other), count);
                ahead[one][other] = true;
            }
        }
    }

    private boolean isAhead(int one, int other, int depth) {
        for (int i = 0; i < 6 && depth < 6; i++) {
            if (ahead[one][i] && (i == other || isAhead(i, other, depth + 1))) {
                return true;
            }
        }
        return false;
    }

    private void dateAll() {
        for (int i = 0; i < 6; i++) {
            earliest[i] = Integer.MAX_VALUE;
            latest[i] = -1;
        }
        date(0, new int[6], new boolean[keptCount]);
    }

    private void date(int recording, int[] dates, boolean[] used) {
        if (recording == recordings) {
            for (int i = 0; i < recordings; i++) {
                earliest[i] = Math.min(earliest[i], dates[i]);
                latest[i] = Math.max(latest[i], dates[i]);
            }
            return;
        }
        for (int i = 0; i < keptCount; i++) {
            if (!used[i] && isLike(recording, i) && isInOrder(recording, kept[i][0], dates)) {
                used[i] = true;
                dates[recording] = kept[i][0];
                date(recording + 1, dates, used);
                used[i] = false;
            }
        }
    }

    private boolean isLike(int recording, int index) {
        for (int i = 0; i < 3; i++) {
            if (told[recording][i] != -1 && told[recording][i] != kept[index][i + 1]) {
                return false;
            }
        }
        return true;
    }

    private boolean isInOrder(int recording, int hour, int[] dates) {
        for (int i = 0; i < recording; i++) {
            if (ahead[i][recording] && dates[i] >= hour || ahead[recording][i] && hour >= dates[i]) {
                return false;
            }
        }
        return true;
    }

    private void compareRecording(int recording) {
        int choices = 0;
        for (int i = 0; i < keptCount; i++) {
            choices += isLike(recording, i) ? 1 : 0;
        }
        Check.due("getChoices", x.getChoices(recording), choices);
        if (latest[recording] < 0) {
            Check.dueThrow("no dating", NoSuchElementException.class, () -> x.getDate(recording, false));
            Check.dueThrow("no dating", NoSuchElementException.class, () -> x.getDate(recording, true));
        } else {
            Check.due("the earliest", x.getDate(recording, false), earliest[recording]);
            Check.due("the latest", x.getDate(recording, true), latest[recording]);
        }
    }
}
