import java.lang.management.ManagementFactory;

/**
 * An object is used for at most 512 calls: as many of them as can be, with the greatest numbers that are taken, so that
 * no number grows out of its type. All calls of a run share one room, so no call but those that add may make objects.
 */
public final class LongestUseTest {
    private static final int CALLS = 512;

    public static void main(String[] args) {
        longestTime();
        mostLoaded();
        mostOffences();
        mostTugs();
        mostSold();
        mostEarned();
        noObjects();
        Check.end("LongestUseTest");
    }

    private static void longestTime() {
        GalleonWave x = new GalleonWave();
        x.addLand(-999, -999, 50);
        x.addShip(999, 999);
        x.setWind(12, 'e');
        x.setTide(3, 3);
        x.addAct(0, 48385, 300, 7);
        for (int i = 1; i <= CALLS - 8; i++) {
            Check.due("hour", x.pass(96), 96 * i);
        }
        Check.due("the act of the hour 48385 does not hold yet", x.getLine(0), 30);
        Check.dueArgument("an act of an hour that is over", () -> x.addAct(0, 48383, 1, 1));
        Check.due("an act of now", x.addAct(0, 48384, 7, 1), 2);
    }

    private static void mostLoaded() {
        GalleonWave x = new GalleonWave();
        x.addLand(0, 0, 1);
        x.addShip(999, -999);
        int times = CALLS - 7;
        for (int i = 1; i <= times; i++) {
            Check.due("cost", x.load(0, 9999, 999, 9), 50 + 10998 * i);
        }
        int money = -50 - 10998 * times;
        Check.due("money", x.send(0, 0, true), money);
        Check.due("fuel", x.getFuel(0), 9999 * times);
        Check.due("food", x.getFood(0), 999 * times);
        long sum = ((7 * 31L + 999) * 31 - 999) * 31 + 9999 * times;
        Check.due("checksum", x.checksum(), (((sum * 31 + 9) * 31) * 31 + money) * 31);
    }

    private static void mostOffences() {
        GalleonWave x = new GalleonWave();
        x.addLand(0, 0, 1);
        x.addShip(30, 30);
        for (int i = 1; i <= CALLS - 4; i++) {
            Check.due("money", x.send(0, 0, false), -50 * i);
        }
        Check.due("evidence", x.getEvidence(0), CALLS - 4);
        Check.due("gone", x.raid(0, 0), 0);
    }

    private static void mostTugs() {
        GalleonWave x = new GalleonWave();
        x.addLand(0, 0, 50);
        x.addShip(50, -50);
        for (int i = 1; i <= CALLS - 2; i++) {
            Check.due("money", x.pullOff(0), -500 * i);
        }
    }

    private static void mostSold() {
        GalleonWave x = new GalleonWave();
        x.addShip(0, 0);
        for (int i = 1; i <= CALLS / 2 - 1; i++) {
            Check.due("left", x.sell(0, 20), 20 * i);
            x.pass(96);
        }
    }

    /** Six towns of 999 thousands listen in each hour, so that a spot earns 599. */
    private static void mostEarned() {
        GalleonWave x = new GalleonWave();
        x.addLand(999, 999, 1);
        for (int i = 0; i < 6; i++) {
            x.addTown(0, 0, 0, 999);
        }
        x.addShip(0, 0);
        x.addPerson(0, 'd');
        x.book(0, 0, true);
        for (int i = 0; i < 7; i++) {
            x.load(0, 9999, 999, 0);
        }
        x.send(0, 0, false);
        x.addGenerator(0, 3, 9999);
        x.setGenerator(0, 0, true);
        x.setPower(0, 2);
        int days = 240;
        for (int i = 0; i < days; i++) {
            x.sell(0, 20);
            x.pass(24);
        }
        Check.due("hours that it ran", x.setGenerator(0, 0, false), 24 * days);
        Check.due("earned", x.getEarned(0), 20 * 599 * days);
        Check.due("money", x.bank(0), 20 * 599 * days - 50 - 7 * 10998);
        Check.due("kept", x.getKept(), 200);
    }

    private static void noObjects() {
        useAll(beginning());
        GalleonWave x = beginning();
        long before = allocated();
        useAll(x);
        long made = allocated() - before;
        Check.due("made some objects, " + made + " bytes of them", made < 10_000, true);
    }

    /** Two ships on the air, and four recordings that can always be dated. */
    private static GalleonWave beginning() {
        GalleonWave x = Scene.station();
        Scene.addStation(x, 8, 0, 4, 30);
        x.addTown(0, 5, 5, 90);
        for (int i = 0; i < 4; i++) {
            x.addRecording(-1, -1, -1);
        }
        x.addAhead(0, 1);
        x.addAhead(2, 3);
        x.pass(12);
        return x;
    }

    private static long allocated() {
        return ((com.sun.management.ThreadMXBean) ManagementFactory.getThreadMXBean()).getCurrentThreadAllocatedBytes();
    }

    private static void useAll(GalleonWave x) {
        for (int i = 0; i < 10; i++) {
            int ship = i % 2;
            x.pass(72);
            x.load(0, 9999, 999, 3 + ship);
            x.send(0, ship, false);
            x.plan(ship, i, 100 + i);
            x.setWind(i % 8, 'n');
            x.setTide(ship, ship);
            x.setPower(ship, 40);
            x.sell(ship, 2);
            for (int j = 0; j < 4; j++) {
                x.getChoices(j);
                x.getDate(j, ship == 0);
            }
            x.getSignal(ship, 0);
            x.getHeard(0);
            x.getListeners(ship);
            x.getSpeaker(ship);
            x.isTired(ship);
            x.getInside(ship);
            x.isAground(ship);
            x.wash(ship);
            x.bank(ship);
            x.isSound();
            x.checksum();
            x.getNightShare();
            x.getMeanCrew();
        }
        Check.due("kept", x.getKept(), 200);
    }
}
