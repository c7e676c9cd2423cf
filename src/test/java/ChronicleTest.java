import java.util.NoSuchElementException;

/** Promises 44 to 52: kept hours, recordings, datings, means, the checksum and soundness. */
public final class ChronicleTest {
    public static void main(String[] args) {
        getKept();
        keptAreTheLast();
        whatIsKept();
        addRecording();
        addAhead();
        aheadOverOthers();
        getChoices();
        getDate();
        dateOfSeveral();
        dateAhead();
        dateOfLikeHours();
        getNightShare();
        getMeanCrew();
        checksum();
        isSound();
        Check.end("ChronicleTest");
    }

    private static void getKept() {
        GalleonWave x = Scene.sea();
        x.pass(3);
        Check.due("nothing on the air", x.getKept(), 0);
        Scene.addStation(x, 0, 0, 4, 20);
        Scene.addStation(x, 300, 0, 5, 20);
        x.pass(3);
        Check.due("two ships for 3 hours", x.getKept(), 6);
        x.setPower(1, 0);
        x.pass(1);
        Check.due("one ship", x.getKept(), 7);
        x.setPower(0, 0);
        x.pass(5);
        Check.due("none", x.getKept(), 7);
        x.setPower(0, 20);
        x.setPower(1, 20);
        x.pass(96);
        Check.due("199", x.getKept(), 199);
        x.setPower(1, 0);
        x.pass(1);
        Check.due("200", x.getKept(), 200);
        x.pass(1);
        Check.due("200 still", x.getKept(), 200);
    }

    private static void keptAreTheLast() {
        GalleonWave x = Scene.sea();
        Scene.addStation(x, 0, 0, 4, 1);
        Scene.addStation(x, 300, 0, 5, 1);
        x.addRecording(-1, -1, -1);
        x.addRecording(4, -1, -1);
        x.addRecording(5, -1, -1);
        x.pass(96);
        x.pass(4);
        Check.due("the first hour", x.getDate(0, false), 0);
        Check.due("the last hour", x.getDate(0, true), 99);
        x.setPower(1, 0);
        x.pass(1);
        Check.due("of ship 0, hour 0 is gone", x.getDate(1, false), 1);
        Check.due("of ship 1, hour 0 is kept", x.getDate(2, false), 0);
        Check.due("100 of ship 0", x.getChoices(1), 100);
        Check.due("100 of ship 1", x.getChoices(2), 100);
        x.pass(1);
        Check.due("of ship 1, hour 0 is gone too", x.getDate(2, false), 1);
        Check.due("99 of ship 1", x.getChoices(2), 99);
        Scene.supply(x, 0, 9999, 999, -1);
        x.pass(96);
        x.pass(96);
        x.pass(6);
        Check.due("ship 0 alone", x.getChoices(1), 200);
        Check.due("none of ship 1", x.getChoices(2), 0);
        Check.due("200 of all", x.getChoices(0), 200);
        Check.due("sound with hours that are gone", x.isSound(), true);
    }

    private static void whatIsKept() {
        int[] channels = {-1, 6, 7, 8, -1, -1, -1, -1, -1, -1, -1, -1, 6, 6, 7};
        int[] bits = {-1, -1, -1, -1, 0, 1, 2, 3, -1, -1, -1, -1, 2, 1, 3};
        int[] whos = {-1, -1, -1, -1, -1, -1, -1, -1, 0, 1, 123, 200, 123, 123, 0};
        int[] due = {3, 2, 1, 0, 0, 1, 1, 1, 2, 0, 1, 0, 1, 0, 1};
        for (int i = 0; i < due.length; i++) {
            GalleonWave x = threeHours();
            x.addRecording(channels[i], bits[i], whos[i]);
            Check.due("choices of " + channels[i] + " " + bits[i] + " " + whos[i], x.getChoices(0), due[i]);
        }
    }

    /** Channel 6, generator 0 and person 0; channel 6, generator 1 and a tape; channel 7, both and person 0. */
    private static GalleonWave threeHours() {
        GalleonWave x = Scene.sea();
        x.addShip(0, 0);
        x.addGenerator(0, 10, 9999);
        x.addGenerator(0, 10, 9999);
        x.addPerson(0, 'd');
        x.addPerson(0, 'e');
        Scene.supply(x, 0, 999, 99, 6);
        Scene.board(x, 0, 0);
        x.setPower(0, 9);
        x.setGenerator(0, 0, true);
        x.plan(0, 0, 0);
        x.plan(0, 1, 123);
        x.pass(1);
        x.setGenerator(0, 0, false);
        x.setGenerator(0, 1, true);
        x.pass(1);
        x.setGenerator(0, 0, true);
        Scene.supply(x, 0, 0, 0, 7);
        x.plan(0, 1, -1);
        x.plan(0, 2, 0);
        x.pass(1);
        return x;
    }

    private static void addRecording() {
        GalleonWave x = new GalleonWave();
        Check.dueArgument("channel -2", () -> x.addRecording(-2, -1, -1));
        Check.dueArgument("channel 10", () -> x.addRecording(10, -1, -1));
        Check.dueArgument("generators -2", () -> x.addRecording(-1, -2, -1));
        Check.dueArgument("generators 4", () -> x.addRecording(-1, 4, -1));
        Check.dueArgument("who -2", () -> x.addRecording(-1, -1, -2));
        Check.dueArgument("nobody yet", () -> x.addRecording(-1, -1, 0));
        Check.dueArgument("tape 99", () -> x.addRecording(-1, -1, 99));
        Check.dueArgument("who 201", () -> x.addRecording(-1, -1, 201));
        x.addLand(0, 0, 5);
        x.addPerson(0, 'e');
        Check.dueArgument("person 1", () -> x.addRecording(-1, -1, 1));
        Check.due("recording 0", x.addRecording(9, 3, 200), 0);
        Check.due("recording 1", x.addRecording(0, 0, 0), 1);
        Check.due("recording 2", x.addRecording(-1, -1, -1), 2);
        Check.due("recording 3", x.addRecording(5, 1, 100), 3);
        Check.due("recording 4", x.addRecording(5, 2, 199), 4);
        Check.due("recording 5", x.addRecording(5, 2, 199), 5);
        Check.dueArgument("the first exception", () -> x.addRecording(10, -1, -1));
        Check.dueState("a seventh", () -> x.addRecording(-1, -1, -1));
        Check.due("of no kept hours", x.getChoices(5), 0);
        Check.dueThrow("no dating", NoSuchElementException.class, () -> x.getDate(5, false));
    }

    private static void addAhead() {
        GalleonWave x = new GalleonWave();
        Check.dueIndex("nothing", () -> x.addAhead(0, 0));
        x.addRecording(-1, -1, -1);
        Check.dueIndex("other 1", () -> x.addAhead(0, 1));
        Check.dueIndex("recording 1", () -> x.addAhead(1, 0));
        Check.dueIndex("recording -1", () -> x.addAhead(-1, 0));
        Check.dueIndex("other -1", () -> x.addAhead(0, -1));
        Check.dueIndex("the same, that is not", () -> x.addAhead(1, 1));
        Check.dueArgument("the same", () -> x.addAhead(0, 0));
        x.addRecording(-1, -1, -1);
        x.addRecording(-1, -1, -1);
        Check.due("1 ahead of 2", x.addAhead(1, 2), 1);
        Check.dueUnsupported("told already", () -> x.addAhead(1, 2));
        Check.dueUnsupported("the other way", () -> x.addAhead(2, 1));
        Check.due("0 ahead of 2", x.addAhead(0, 2), 2);
        Check.due("0 ahead of 1", x.addAhead(0, 1), 3);
        Check.dueUnsupported("over another", () -> x.addAhead(2, 0));
        x.addRecording(-1, -1, -1);
        Check.due("3 ahead of 0", x.addAhead(3, 0), 4);
        Check.due("3 ahead of 2, which follows already", x.addAhead(3, 2), 5);
        Check.dueIndex("recording 4", () -> x.addAhead(4, 0));
    }

    private static void aheadOverOthers() {
        GalleonWave x = new GalleonWave();
        for (int i = 0; i < 6; i++) {
            x.addRecording(-1, -1, -1);
        }
        int[] chain = {4, 0, 5, 2, 1, 3};
        for (int i = 0; i < 5; i++) {
            Check.due("link " + i, x.addAhead(chain[i], chain[i + 1]), i + 1);
        }
        for (int i = 0; i < 6; i++) {
            for (int k = 0; k < i; k++) {
                int behind = chain[i];
                int ahead = chain[k];
                Check.dueUnsupported(behind + " ahead of " + ahead, () -> x.addAhead(behind, ahead));
            }
        }
        int told = 5;
        for (int i = 0; i < 6; i++) {
            for (int k = i + 2; k < 6; k++) {
                told++;
                Check.due(chain[i] + " ahead of " + chain[k], x.addAhead(chain[i], chain[k]), told);
            }
        }
        Check.due("of all told", told, 15);
    }

    private static void getChoices() {
        GalleonWave x = Scene.station();
        Check.dueIndex("no recording", () -> x.getChoices(0));
        x.addRecording(3, 1, 0);
        x.addRecording(3, 1, 0);
        x.addAhead(0, 1);
        Check.due("none yet", x.getChoices(0), 0);
        x.pass(5);
        Check.due("others aside", x.getChoices(0), 5);
        Check.due("others aside too", x.getChoices(1), 5);
        Check.dueIndex("recording 2", () -> x.getChoices(2));
        Check.dueIndex("recording -1", () -> x.getChoices(-1));
    }

    private static void getDate() {
        GalleonWave x = Scene.station();
        Check.dueIndex("no recording", () -> x.getDate(0, false));
        x.addRecording(-1, -1, -1);
        Check.dueThrow("no kept hours", NoSuchElementException.class, () -> x.getDate(0, false));
        x.pass(1);
        Check.due("hour 0 is the earliest", x.getDate(0, false), 0);
        Check.due("hour 0 is the latest", x.getDate(0, true), 0);
        x.setPower(0, 0);
        x.pass(3);
        x.setPower(0, 20);
        x.pass(2);
        Check.due("the earliest", x.getDate(0, false), 0);
        Check.due("the latest", x.getDate(0, true), 5);
        x.addRecording(8, -1, -1);
        Check.dueThrow("another one has none", NoSuchElementException.class, () -> x.getDate(0, true));
        Check.dueThrow("it has none", NoSuchElementException.class, () -> x.getDate(1, true));
        Check.dueIndex("recording 2", () -> x.getDate(2, true));
        Check.dueIndex("recording -1", () -> x.getDate(-1, true));
    }

    private static void dateOfSeveral() {
        GalleonWave x = Scene.station();
        x.plan(0, 2, 110);
        x.plan(0, 5, 110);
        x.pass(6);
        x.addRecording(-1, -1, 110);
        x.addRecording(-1, -1, 110);
        Check.due("either", x.getDate(0, false), 2);
        Check.due("either", x.getDate(1, false), 2);
        Check.due("either", x.getDate(0, true), 5);
        Check.due("either", x.getDate(1, true), 5);
        x.addAhead(1, 0);
        Check.due("behind", x.getDate(0, false), 5);
        Check.due("behind", x.getDate(0, true), 5);
        Check.due("ahead", x.getDate(1, false), 2);
        Check.due("ahead", x.getDate(1, true), 2);
        x.addRecording(-1, -1, 110);
        Check.dueThrow("three of two hours", NoSuchElementException.class, () -> x.getDate(0, false));
        Check.due("each has 2 choices still", x.getChoices(2), 2);
    }

    private static void dateAhead() {
        GalleonWave x = Scene.station();
        x.pass(8);
        for (int i = 0; i < 6; i++) {
            x.addRecording(-1, -1, -1);
        }
        int[] chain = {3, 1, 5, 0, 4, 2};
        for (int i = 0; i < 5; i++) {
            x.addAhead(chain[i], chain[i + 1]);
        }
        for (int i = 0; i < 6; i++) {
            Check.due("the earliest of number " + i, x.getDate(chain[i], false), i);
            Check.due("the latest of number " + i, x.getDate(chain[i], true), i + 2);
        }
    }

    private static void dateOfLikeHours() {
        GalleonWave x = Scene.sea();
        Scene.addStation(x, 0, 0, 4, 20);
        Scene.addStation(x, 300, 0, 5, 20);
        x.pass(2);
        x.addRecording(-1, -1, -1);
        x.addRecording(-1, -1, -1);
        x.addRecording(-1, -1, -1);
        x.addRecording(-1, -1, -1);
        Check.due("two ships of one hour", x.getDate(3, false), 0);
        Check.due("two ships of one hour", x.getDate(3, true), 1);
        x.addAhead(0, 1);
        x.addAhead(0, 2);
        Check.due("0 ahead of both", x.getDate(0, true), 0);
        Check.due("both behind 0", x.getDate(1, false), 1);
        Check.due("both behind 0", x.getDate(2, false), 1);
        Check.due("so that 3 is of the first hour", x.getDate(3, true), 0);
        x.addAhead(3, 0);
        Check.dueThrow("an earlier hour, not only an earlier ship", NoSuchElementException.class,
                () -> x.getDate(0, false));
    }

    private static void getNightShare() {
        GalleonWave x = Scene.station();
        Check.dueThrow("none are kept", ArithmeticException.class, x::getNightShare);
        x.pass(6);
        Check.dueReal("by night", x.getNightShare(), 1.0f);
        x.pass(1);
        Check.dueReal("6 of 7", x.getNightShare(), 6f / 7f);
        x.pass(11);
        Check.dueReal("6 of 18", x.getNightShare(), 6f / 18f);
        x.pass(1);
        Check.dueReal("7 of 19", x.getNightShare(), 7f / 19f);
        x.pass(12);
        Check.dueReal("18 of 31", x.getNightShare(), 18f / 31f);
    }

    private static void getMeanCrew() {
        GalleonWave x = Scene.sea();
        Check.dueThrow("no ships", ArithmeticException.class, x::getMeanCrew);
        x.addPerson(0, 'd');
        x.addPerson(0, 'e');
        Check.dueThrow("no ships still", ArithmeticException.class, x::getMeanCrew);
        x.addShip(0, 0);
        Check.dueReal("none aboard", x.getMeanCrew(), 0.0);
        Scene.board(x, 0, 0);
        Check.dueReal("one", x.getMeanCrew(), 1.0);
        x.addShip(0, 0);
        x.addShip(0, 0);
        Check.dueReal("a third", x.getMeanCrew(), 1.0 / 3.0);
        Scene.board(x, 2, 1);
        Check.dueReal("two thirds", x.getMeanCrew(), 2.0 / 3.0);
    }

    private static void checksum() {
        GalleonWave x = Scene.sea();
        Check.due("at first", x.checksum(), sum(new long[][] {}, 0, 0));
        x.addShip(-5, 6);
        Check.due("a ship", x.checksum(), sum(new long[][] {{-5, 6, 0, -1, 0}}, 0, 0));
        Scene.supply(x, 0, 70, 9, 8);
        Check.due("a tender", x.checksum(), sum(new long[][] {{-5, 6, 70, 8, 0}}, -129, 0));
        x.addTown(0, 300, 0, 57);
        Scene.addStation(x, 300, 0, 3, 20);
        x.sell(1, 4);
        x.anchor(0, 's');
        x.pass(2);
        int money = x.getMoney();
        Check.due("two ships", x.checksum(), sum(new long[][] {{-5, 6, 70, 8, 0}, {300, 0, 9899, 3, 10}}, money, 2));
        x.bank(1);
        Check.due("banked", x.checksum(), sum(new long[][] {{-5, 6, 70, 8, 0}, {300, 0, 9899, 3, 0}}, money + 10, 2));
    }

    private static long sum(long[][] ships, long money, long hour) {
        long sum = 7;
        for (long[] ship : ships) {
            for (long part : ship) {
                sum = sum * 31 + part;
            }
        }
        return (sum * 31 + money) * 31 + hour;
    }

    private static void isSound() {
        GalleonWave x = new GalleonWave();
        Check.due("new", x.isSound(), true);
        x.addLand(0, 0, 5);
        Scene.addStation(x, 60, 0, 4, 20);
        Scene.addStation(x, 65, 0, 5, 20);
        Check.due("before an hour", x.isSound(), true);
        x.plan(0, 3, 120);
        x.pass(9);
        x.addRecording(4, -1, -1);
        Check.due("a recording", x.isSound(), true);
        x.addRecording(-1, -1, 120);
        x.addRecording(-1, 1, -1);
        x.addAhead(1, 0);
        x.addAhead(2, 1);
        x.addRecording(5, -1, -1);
        Check.due("four", x.isSound(), true);
        x.addAhead(3, 2);
        Check.due("four in a row", x.isSound(), true);
        x.addRecording(9, -1, -1);
        Check.due("without a dating", x.isSound(), true);
        x.addRecording(-1, -1, -1);
        x.addPerson(0, 'e');
        Scene.board(x, 0, 2);
        Check.due("boarded", x.board(0, 1), true);
        x.pass(96);
        x.pass(96);
        Check.due("after long", x.isSound(), true);
    }
}
