/** Beginnings that several tests share. */
final class Scene {
    private Scene() {
    }

    /** A far land 0 without people's ships near it. */
    static GalleonWave sea() {
        GalleonWave x = new GalleonWave();
        x.addLand(900, 900, 1);
        return x;
    }

    /** A sea with a ship 0 at 0, 0 that will be on the air on channel 3 with a power of 20, and 0, a 'd', aboard. */
    static GalleonWave station() {
        GalleonWave x = sea();
        addStation(x, 0, 0, 3, 20);
        return x;
    }

    /** Adds a ship at anchor with a generator of 50, all it needs, and one 'd' of land 0 aboard; returns its number. */
    static int addStation(GalleonWave x, int east, int north, int channel, int power) {
        int ship = x.addShip(east, north);
        x.anchor(ship, 's');
        x.addGenerator(ship, 50, 9999);
        x.setGenerator(ship, 0, true);
        int person = x.addPerson(0, 'd');
        supply(x, ship, 9999, 999, channel);
        board(x, ship, person);
        x.setPower(ship, power);
        return ship;
    }

    static void supply(GalleonWave x, int ship, int fuel, int food, int channel) {
        x.load(0, fuel, food, channel);
        x.send(0, ship, false);
    }

    /** Brings a person aboard with an empty tender of land 0. */
    static void board(GalleonWave x, int ship, int person) {
        x.book(0, person, true);
        x.send(0, ship, false);
    }

    static void passLong(GalleonWave x, int hours) {
        for (int left = hours; left > 0; left -= 96) {
            x.pass(Math.min(left, 96));
        }
    }
}
