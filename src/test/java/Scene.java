/** Beginnings that several tests share. */
final class Scene {
    private Scene() {
    }

    /** A far land 0 without people's ships near it. */
    static GalleonWave sea() {
        GalleonWave x = new GalleonWave();
        x.addLand(900, 900, 1);
        return x;
    }

    /** A sea with a ship 0 at 0, 0 that will be on the air on channel 3 with a power of 20, and 0, a 'd', aboard. */
    static GalleonWave station() {
        GalleonWave x = sea();
        addStation(x, 0, 0, 3, 20);
        return x;
    }

    /** Adds a ship at anchor with a generator of 50, all it needs, and one 'd' of land 0 aboard; returns its number. */
    static int addStation(GalleonWave x, int east, int north, int channel, int power) {
        int ship = x.addShip(east, north);
        x.anchor(ship, 's');
        x.addGenerator(ship, 50, 9999);
        x.setGenerator(ship, 0, true);
        int person = x.addPerson(0, 'd');
        supply(x, ship, 9999, 999, channel);
        board(x, ship, person);
        x.setPower(ship, power);
        return ship;
    }

    static void supply(GalleonWave x, int ship, int fuel, int food, int channel) {
        x.load(0, fuel, food, channel);
        x.send(0, ship, false);
    }

    /** Brings a person aboard with an empty tender of land 0. */
    static void board(GalleonWave x, int ship, int person) {
        x.book(0, person, true);
        x.send(0, ship, false);
    }

    static void passLong(GalleonWave x, int hours) {
        for (int left = hours; left > 0; left -= 96) {
            x.pass(Math.min(left, 96));
        }
    }

    /**
     * A sea on which there are as many of all as can be: 4 lands, 8 acts of land 0, 6 towns, 4 ships, 2 generators of
     * ship 0, 12 people, 6 recordings, and 20 spots of ship 0 sold on this day. By the hour 9, ships 0 and 1 have been
     * on the air, ship 3 is aground, a tender of land 1 is loaded, and people 5 and 6 go with it.
     */
    static GalleonWave full() {
        GalleonWave x = sea();
        x.addLand(-900, 900, 1);
        x.addLand(0, 200, 10);
        x.addLand(100, 100, 5);
        addActs(x);
        for (int i = 0; i < 6; i++) {
            x.addTown(i % 4, 10 * i, -10, 90 + i);
        }
        addStation(x, 0, 0, 3, 20);
        addStation(x, 8, 0, 4, 30);
        x.addShip(300, 0);
        x.addShip(103, 97);
        x.addGenerator(0, 20, 30);
        for (int i = 2; i < 12; i++) {
            x.addPerson(i % 4, i % 3 == 0 ? 'e' : 'd');
        }
        addPlans(x);
        x.setTide(1, -2);
        x.pass(8);
        x.setWind(5, 'e');
        x.setGenerator(0, 1, true);
        x.sell(0, 20);
        x.sell(1, 4);
        x.pass(1);
        x.load(1, 70, 30, 8);
        x.book(1, 5, true);
        x.book(1, 6, true);
        addRecordings(x);
        return x;
    }

    private static void addActs(GalleonWave x) {
        x.addAct(0, 0, 40, 2);
        x.addAct(0, 12, 50, 7);
        for (int i = 2; i < 8; i++) {
            x.addAct(0, 20 + i, 60 + i, i);
        }
        x.addAct(1, 3, 70, 2);
    }

    private static void addPlans(GalleonWave x) {
        x.plan(0, 3, 110);
        x.plan(0, 4, 0);
        x.plan(0, 5, 120);
        x.plan(0, 11, 2);
        x.plan(1, 0, 130);
        x.plan(1, 1, 1);
    }

    private static void addRecordings(GalleonWave x) {
        x.addRecording(3, -1, -1);
        x.addRecording(-1, 1, -1);
        x.addRecording(-1, -1, 110);
        x.addRecording(4, 1, 1);
        x.addRecording(-1, -1, -1);
        x.addRecording(-1, 3, -1);
        x.addAhead(2, 5);
        x.addAhead(0, 2);
        x.addAhead(4, 0);
    }

    /** The same in a wind that no tender goes in. */
    static GalleonWave stormy() {
        GalleonWave x = full();
        x.setWind(8, 'e');
        return x;
    }
}
