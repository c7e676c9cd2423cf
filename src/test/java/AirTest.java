/** Promises 22 to 27: power, channels, who is on the air, signals, who is heard, and listeners. */
public final class AirTest {
    public static void main(String[] args) {
        setPower();
        getChannel();
        isOnAir();
        powerAndOneMore();
        fromHourToHour();
        getSignal();
        signalWithSalt();
        getHeard();
        heardOnOneChannel();
        heardTwiceAsStrong();
        heardOfSeveral();
        heardInTheLastHour();
        getListeners();
        Check.end("AirTest");
    }

    private static void setPower() {
        GalleonWave x = new GalleonWave();
        Check.dueIndex("no ship first", () -> x.setPower(0, 51));
        x.addShip(0, 0);
        Check.dueArgument("power -1", () -> x.setPower(0, -1));
        Check.dueArgument("power 51", () -> x.setPower(0, 51));
        Check.due("0 at first", x.setPower(0, 50), 0);
        Check.due("50 before", x.setPower(0, 0), 50);
        Check.due("0 before", x.setPower(0, 7), 0);
        Check.dueArgument("wrong after that", () -> x.setPower(0, 51));
        Check.due("7 before", x.setPower(0, 7), 7);
        Check.dueIndex("ship 1", () -> x.setPower(1, 5));
        Check.dueIndex("ship -1", () -> x.setPower(-1, 5));
    }

    private static void getChannel() {
        GalleonWave x = Scene.sea();
        Check.dueIndex("no ship", () -> x.getChannel(0));
        x.addShip(0, 0);
        x.addShip(0, 0);
        Check.due("no crystal", x.getChannel(0), -1);
        Scene.supply(x, 0, 0, 0, 0);
        Check.due("channel 0", x.getChannel(0), 0);
        Scene.supply(x, 0, 0, 0, 9);
        Check.due("channel 9 in place of it", x.getChannel(0), 9);
        Scene.supply(x, 0, 0, 0, -1);
        Check.due("a tender without a crystal", x.getChannel(0), 9);
        Check.due("of the other ship", x.getChannel(1), -1);
        Check.dueIndex("ship 2", () -> x.getChannel(2));
        Check.dueIndex("ship -1", () -> x.getChannel(-1));
    }

    private static void isOnAir() {
        GalleonWave x = Scene.sea();
        Check.dueIndex("no ship", () -> x.isOnAir(0));
        x.addShip(0, 0);
        x.addGenerator(0, 10, 9999);
        x.addPerson(0, 'e');
        dueOnAir("nothing", x, false);
        Scene.supply(x, 0, 9999, 999, 4);
        dueOnAir("a crystal", x, false);
        x.setGenerator(0, 0, true);
        dueOnAir("and a generator", x, false);
        x.setPower(0, 9);
        dueOnAir("and a power", x, false);
        Scene.board(x, 0, 0);
        dueOnAir("and an engineer", x, true);
        x.setGenerator(0, 0, false);
        Check.due("in the last hour still", x.isOnAir(0), true);
        dueOnAir("no generator", x, false);
        x.setGenerator(0, 0, true);
        dueOnAir("all again", x, true);
        x.setPower(0, 0);
        dueOnAir("no power", x, false);
        x.setPower(0, 1);
        dueOnAir("a power of 1", x, true);
        Check.dueIndex("ship 1", () -> x.isOnAir(1));
        Check.dueIndex("ship -1", () -> x.isOnAir(-1));
        GalleonWave bare = Scene.sea();
        int ship = Scene.addStation(bare, 0, 0, -1, 20);
        bare.pass(1);
        Check.due("no crystal", bare.isOnAir(ship), false);
    }

    private static void dueOnAir(String what, GalleonWave x, boolean want) {
        x.pass(1);
        Check.due("on the air with " + what, x.isOnAir(0), want);
    }

    private static void powerAndOneMore() {
        GalleonWave x = Scene.sea();
        x.addShip(0, 0);
        x.addGenerator(0, 10, 9999);
        x.addGenerator(0, 5, 9999);
        x.setGenerator(0, 0, true);
        x.addPerson(0, 'd');
        Scene.supply(x, 0, 61, 999, 4);
        Scene.board(x, 0, 0);
        x.setPower(0, 10);
        dueOnAir("10 of 10", x, false);
        x.setPower(0, 9);
        dueOnAir("9 of 10", x, true);
        x.setGenerator(0, 1, true);
        x.setPower(0, 15);
        dueOnAir("15 of 15", x, false);
        x.setPower(0, 14);
        dueOnAir("14 of 15", x, true);
        dueOnAir("14 where the fuel is too little for 10", x, false);
        x.setPower(0, 4);
        dueOnAir("4 where the fuel is too little for either", x, false);
    }

    private static void fromHourToHour() {
        GalleonWave x = Scene.sea();
        x.addShip(0, 0);
        x.addGenerator(0, 10, 3);
        x.setGenerator(0, 0, true);
        x.addPerson(0, 'd');
        Scene.supply(x, 0, 999, 999, 4);
        Scene.board(x, 0, 0);
        x.setPower(0, 9);
        x.pass(3);
        Check.due("in the last hour of its life", x.isOnAir(0), true);
        dueOnAir("a generator whose life is over", x, false);
        x.addGenerator(0, 10, 99);
        x.setGenerator(0, 1, true);
        dueOnAir("another generator", x, true);
        x.addShip(1, 1);
        Check.due("a ship that is new", x.isOnAir(1), false);
    }

    private static void getSignal() {
        GalleonWave x = new GalleonWave();
        Check.dueIndex("nothing", () -> x.getSignal(0, 0));
        x.addLand(900, 900, 1);
        x.addShip(0, 0);
        Check.dueIndex("no town", () -> x.getSignal(0, 0));
        x.addTown(0, 0, 0, 1);
        x.addTown(0, 30, -40, 1);
        x.addTown(0, -999, 999, 1);
        Check.due("a power of 0 at the town itself, by night", x.getSignal(0, 0), 200);
        x.setPower(0, 50);
        Check.due("50 at the town itself, by night", x.getSignal(0, 0), 10000);
        Check.due("50 as far as 40, by night", x.getSignal(0, 1), 100000 / 1610);
        Check.due("50 as far as 999, by night", x.getSignal(0, 2), 0);
        int[] hours = {5, 6, 17, 18, 23, 24, 29, 30, 41, 42};
        boolean[] nights = {true, false, false, true, true, true, true, false, false, true};
        int at = 0;
        for (int i = 0; i < hours.length; i++) {
            at = x.pass(hours[i] - at);
            Check.due("at hour " + at, x.getSignal(0, 1), (nights[i] ? 100000 : 50000) / 1610);
        }
        x.setPower(0, 1);
        x.pass(12);
        Check.due("1 by day", x.getSignal(0, 0), 100);
        Check.due("1 by day as far as 40", x.getSignal(0, 1), 0);
        GalleonWave south = Scene.sea();
        south.addTown(0, -100, -100, 1);
        south.addShip(-100, -130);
        south.setPower(0, 50);
        Check.due("30 to the south", south.getSignal(0, 0), 100000 / 910);
        Check.dueIndex("town 3", () -> x.getSignal(0, 3));
        Check.dueIndex("town -1", () -> x.getSignal(0, -1));
        Check.dueIndex("ship 1", () -> x.getSignal(1, 0));
        Check.dueIndex("ship -1", () -> x.getSignal(-1, 0));
    }

    private static void signalWithSalt() {
        int[] powers = {0, 1, 2, 9, 10, 19, 50};
        for (int p = 0; p < powers.length; p++) {
            GalleonWave x = new GalleonWave();
            x.addLand(900, 900, 1);
            x.addTown(0, 0, 0, 1);
            x.addShip(0, 0);
            x.anchor(0, 's');
            x.setPower(0, powers[p]);
            x.setWind(7, 'n');
            for (int salt = 1; salt <= 9; salt++) {
                x.pass(1);
                int out = Math.max(1, powers[p] * (10 - Math.min(8, salt)) / 10);
                boolean isNight = salt < 6;
                Check.due(powers[p] + " with " + salt, x.getSignal(0, 0), (isNight ? 2000 : 1000) * out / 10);
            }
        }
    }

    private static void getHeard() {
        GalleonWave x = Scene.station();
        Check.dueIndex("no town", () -> x.getHeard(0));
        x.addTown(0, 44, 0, 1);
        x.addTown(0, 45, 0, 1);
        x.addTown(0, 31, 0, 1);
        x.addTown(0, 32, 0, 1);
        Check.due("nobody yet", x.getHeard(0), -1);
        x.pass(1);
        Check.due("a signal of 20 by night", x.getHeard(0), 0);
        Check.due("a signal of 19 by night", x.getHeard(1), -1);
        x.pass(5);
        Check.due("the last hour is by night", x.getHeard(0), 0);
        x.pass(1);
        Check.due("too far by day", x.getHeard(0), -1);
        Check.due("a signal of 20 by day", x.getHeard(2), 0);
        Check.due("a signal of 19 by day", x.getHeard(3), -1);
        x.setPower(0, 0);
        x.pass(1);
        Check.due("off the air", x.getHeard(2), -1);
        Check.dueIndex("town 4", () -> x.getHeard(4));
        Check.dueIndex("town -1", () -> x.getHeard(-1));
    }

    private static void heardOnOneChannel() {
        GalleonWave x = Scene.sea();
        x.addTown(0, 0, 0, 1);
        Scene.addStation(x, 0, 10, 5, 20);
        Scene.addStation(x, 10, 0, 5, 40);
        x.pass(1);
        Check.due("twice as strong", x.getHeard(0), 1);
        x.setPower(1, 39);
        x.pass(1);
        Check.due("less than twice as strong", x.getHeard(0), -1);
        x.setPower(1, 49);
        x.pass(1);
        Check.due("more than twice", x.getHeard(0), 1);
        Scene.addStation(x, -10, 0, 5, 5);
        x.pass(1);
        Check.due("less than twice of both together", x.getHeard(0), -1);
        x.setPower(0, 19);
        x.pass(1);
        Check.due("twice of both together", x.getHeard(0), 1);
        Scene.supply(x, 2, 0, 0, 6);
        x.setPower(0, 25);
        x.pass(1);
        Check.due("the other one is on another channel, and heard", x.getHeard(0), 2);
        x.setPower(0, 24);
        x.pass(1);
        Check.due("the stronger one of two channels", x.getHeard(0), 1);
        x.setPower(1, 0);
        x.pass(1);
        Check.due("one off the air does not disturb", x.getHeard(0), 0);
    }

    private static void heardTwiceAsStrong() {
        GalleonWave x = Scene.sea();
        x.addTown(0, 0, 0, 1);
        Scene.addStation(x, 0, 0, 5, 20);
        Scene.addStation(x, 0, 0, 5, 40);
        x.pass(1);
        Check.due("8000 and 4000", x.getHeard(0), 1);
        GalleonWave y = Scene.sea();
        y.addTown(0, 0, 0, 1);
        Scene.addStation(y, 0, 30, 5, 20);
        Scene.addStation(y, 30, 0, 5, 39);
        y.pass(1);
        Check.due("85 and 43", y.getHeard(0), -1);
        y.setPower(1, 40);
        y.pass(1);
        Check.due("87 and 43", y.getHeard(0), 1);
    }

    private static void heardOfSeveral() {
        GalleonWave x = Scene.sea();
        x.addTown(0, 0, 0, 1);
        Scene.addStation(x, 0, 10, 5, 20);
        Scene.addStation(x, 10, 0, 6, 20);
        Scene.addStation(x, 10, 0, 7, 20);
        x.pass(1);
        Check.due("of like ones the lowest number", x.getHeard(0), 0);
        x.setPower(2, 21);
        x.pass(1);
        Check.due("the strongest", x.getHeard(0), 2);
        x.setPower(1, 22);
        x.pass(1);
        Check.due("the strongest now", x.getHeard(0), 1);
        x.setPower(0, 0);
        x.setPower(1, 20);
        x.setPower(2, 20);
        x.pass(1);
        Check.due("of those on the air", x.getHeard(0), 1);
    }

    private static void heardInTheLastHour() {
        GalleonWave x = Scene.sea();
        x.addTown(0, 0, 0, 1);
        Scene.addStation(x, 40, 0, 5, 20);
        x.weigh(0);
        x.setWind(12, 'e');
        x.pass(1);
        Check.due("heard from where it was at the beginning", x.getHeard(0), 0);
        Check.due("it drifted", x.getPlace(0, true), 46);
        x.pass(1);
        Check.due("too far by now", x.getHeard(0), -1);
        GalleonWave y = Scene.sea();
        y.addTown(0, 0, 0, 1);
        Scene.addStation(y, 40, 0, 5, 18);
        y.setWind(7, 'n');
        y.pass(1);
        Check.due("salt counts from the next hour on", y.getHeard(0), 0);
        y.pass(1);
        Check.due("it counts", y.getHeard(0), -1);
    }

    private static void getListeners() {
        GalleonWave x = Scene.sea();
        Check.dueIndex("no ship", () -> x.getListeners(0));
        x.addTown(0, 0, 0, 100);
        x.addTown(0, 10, 0, 20);
        x.addTown(0, 200, 0, 3);
        Scene.addStation(x, 0, 0, 5, 20);
        Scene.addStation(x, 200, 0, 5, 20);
        Check.due("nobody yet", x.getListeners(0), 0);
        x.pass(1);
        Check.due("of two towns", x.getListeners(0), 120);
        Check.due("of one town", x.getListeners(1), 3);
        x.addTown(0, 0, 0, 7);
        Check.due("a new town did not listen", x.getListeners(0), 120);
        x.pass(1);
        Check.due("now it does", x.getListeners(0), 127);
        x.setPower(1, 0);
        x.pass(1);
        Check.due("off the air", x.getListeners(1), 0);
        x.addAct(0, 3, 0, 7);
        x.pass(1);
        Check.due("listening can't be forbidden", x.getListeners(0), 127);
        Check.dueIndex("ship 2", () -> x.getListeners(2));
        Check.dueIndex("ship -1", () -> x.getListeners(-1));
    }
}
