/**
 * "A method that throws an exception changes nothing. If several exceptions apply, the one that is documented first is
 * thrown." Each 'Throws ..' row of the promises whose reason is not a number alone, with the last call that is taken.
 */
public final class RefusedTest {
    public static void main(String[] args) {
        asManyAsCanBe();
        argumentsAheadOfState();
        indexAheadOfAll();
        secondIndexAheadOfAll();
        anchors();
        wash();
        book();
        send();
        getSpeaker();
        sell();
        raid();
        board();
        addAhead();
        getDate();
        means();
        Check.end("RefusedTest");
    }

    private static void asManyAsCanBe() {
        Bounds.refused("a fifth land", Bounds.STATE, Scene::full, x -> x.addLand(0, 0, 5));
        Bounds.refused("a ninth act", Bounds.STATE, Scene::full, x -> x.addAct(0, 9, 40, 1));
        Bounds.refused("a seventh town", Bounds.STATE, Scene::full, x -> x.addTown(0, 0, 0, 5));
        Bounds.refused("a fifth ship", Bounds.STATE, Scene::full, x -> x.addShip(0, 0));
        Bounds.refused("a third generator", Bounds.STATE, Scene::full, x -> x.addGenerator(0, 5, 5));
        Bounds.refused("a thirteenth person", Bounds.STATE, Scene::full, x -> x.addPerson(0, 'd'));
        Bounds.refused("a seventh recording", Bounds.STATE, Scene::full, x -> x.addRecording(-1, -1, -1));
        Bounds.taken("acts up to 8", Scene::sea, x -> {
            for (int i = 1; i <= 8; i++) {
                Check.due("act " + i, x.addAct(0, i, 40, 1), i);
            }
        });
        Bounds.taken("an act of another land", Scene::full, x -> Check.due("acts", x.addAct(1, 9, 40, 1), 2));
        Bounds.taken("a generator of another ship", Scene::full, x -> x.addGenerator(1, 5, 5));
        Bounds.taken("all others up to as many as can be", GalleonWave::new, x -> {
            for (int i = 0; i < 12; i++) {
                Check.due("land", i < 4 ? x.addLand(i, i, 5) : 0, i < 4 ? i : 0);
                Check.due("town", i < 6 ? x.addTown(i % 2, i, i, 5) : 0, i < 6 ? i : 0);
                Check.due("ship", i < 4 ? x.addShip(i, i) : 0, i < 4 ? i : 0);
                Check.due("generator", i < 2 ? x.addGenerator(0, 5, 5) : 0, i < 2 ? i : 0);
                Check.due("person", x.addPerson(0, 'd'), i);
                Check.due("recording", i < 6 ? x.addRecording(-1, -1, i) : 0, i < 6 ? i : 0);
            }
        });
    }

    /** What is out of range is documented ahead of there being too many, or of what can't be done now. */
    private static void argumentsAheadOfState() {
        Bounds.refused("a fifth land, far", Bounds.ARGUMENT, Scene::full, x -> x.addLand(1000, 0, 5));
        Bounds.refused("a fifth land, without shallows", Bounds.ARGUMENT, Scene::full, x -> x.addLand(0, 0, 0));
        Bounds.refused("a ninth act, too early", Bounds.ARGUMENT, Scene::full, x -> x.addAct(0, 8, 40, 1));
        Bounds.refused("a ninth act, its line", Bounds.ARGUMENT, Scene::full, x -> x.addAct(0, 9, 301, 1));
        Bounds.refused("a ninth act, forbidden", Bounds.ARGUMENT, Scene::full, x -> x.addAct(0, 9, 40, 8));
        Bounds.refused("a seventh town, far", Bounds.ARGUMENT, Scene::full, x -> x.addTown(0, 0, -1000, 5));
        Bounds.refused("a seventh town, empty", Bounds.ARGUMENT, Scene::full, x -> x.addTown(0, 0, 0, 0));
        Bounds.refused("a fifth ship, far", Bounds.ARGUMENT, Scene::full, x -> x.addShip(0, 1000));
        Bounds.refused("a third generator, weak", Bounds.ARGUMENT, Scene::full, x -> x.addGenerator(0, 0, 5));
        Bounds.refused("a third generator, dead", Bounds.ARGUMENT, Scene::full, x -> x.addGenerator(0, 5, 0));
        Bounds.refused("a thirteenth, of no kind", Bounds.ARGUMENT, Scene::full, x -> x.addPerson(0, 'D'));
        Bounds.refused("a seventh recording", Bounds.ARGUMENT, Scene::full, x -> x.addRecording(10, -1, -1));
        Bounds.refused("a seventh, of nobody", Bounds.ARGUMENT, Scene::full, x -> x.addRecording(-1, -1, 12));
        Bounds.refused("an anchor that is down", Bounds.ARGUMENT, Scene::full, x -> x.anchor(0, 'x'));
        Bounds.refused("an anchor aground", Bounds.ARGUMENT, Scene::full, x -> x.anchor(3, 'x'));
        Bounds.refused("21 spots on a full day", Bounds.ARGUMENT, Scene::full, x -> x.sell(0, 21));
        Bounds.refused("no spots on a full day", Bounds.ARGUMENT, Scene::full, x -> x.sell(0, 0));
    }

    /** That there is no such number is documented ahead of all else. */
    private static void indexAheadOfAll() {
        Bounds.refused("an act of no land", Bounds.INDEX, Scene::full, x -> x.addAct(4, -1, 301, 8));
        Bounds.refused("a town of no land", Bounds.INDEX, Scene::full, x -> x.addTown(4, 1000, 1000, 0));
        Bounds.refused("an anchor of no ship", Bounds.INDEX, Scene::full, x -> x.anchor(4, 'x'));
        Bounds.refused("a generator of no ship", Bounds.INDEX, Scene::full, x -> x.addGenerator(4, 0, 0));
        Bounds.refused("a power of no ship", Bounds.INDEX, Scene::full, x -> x.setPower(4, 51));
        Bounds.refused("a person of no land", Bounds.INDEX, Scene::full, x -> x.addPerson(4, 'x'));
        Bounds.refused("a load of no land", Bounds.INDEX, Scene::full, x -> x.load(4, -1, -1, -2));
        Bounds.refused("a plan of no ship", Bounds.INDEX, Scene::full, x -> x.plan(4, 24, 12));
        Bounds.refused("spots of no ship", Bounds.INDEX, Scene::full, x -> x.sell(4, 0));
        Bounds.refused("no ship boards", Bounds.INDEX, Scene::full, x -> x.board(4, 4));
        Bounds.refused("no recording ahead", Bounds.INDEX, Scene::full, x -> x.addAhead(6, 6));
        Bounds.refused("a booking by no land", Bounds.INDEX, Scene::full, x -> x.book(4, 0, true));
        Bounds.refused("a tender of no land", Bounds.INDEX, Scene::stormy, x -> x.send(4, 0, true));
        Bounds.refused("a raid by no land", Bounds.INDEX, Scene::full, x -> x.raid(4, 0));
    }

    private static void secondIndexAheadOfAll() {
        Bounds.refused("a booking of one that is not", Bounds.INDEX, Scene::full, x -> x.book(0, 12, true));
        Bounds.refused("a tender to no ship", Bounds.INDEX, Scene::stormy, x -> x.send(0, 4, true));
        Bounds.refused("a raid of no ship", Bounds.INDEX, Scene::full, x -> x.raid(0, 4));
        Bounds.refused("a boarding of no ship", Bounds.INDEX, Scene::full, x -> x.board(2, 4));
        Bounds.refused("no such other recording", Bounds.INDEX, Scene::full, x -> x.addAhead(0, 6));
        Bounds.refused("a signal of no ship", Bounds.INDEX, Scene::full, x -> x.getSignal(4, 0));
        Bounds.refused("a signal at no town", Bounds.INDEX, Scene::full, x -> x.getSignal(0, 6));
        Bounds.refused("no such generator", Bounds.INDEX, Scene::full, x -> x.setGenerator(1, 1, true));
        Bounds.refused("a generator of no such ship", Bounds.INDEX, Scene::full, x -> x.setGenerator(4, 0, true));
    }

    private static void anchors() {
        Bounds.refused("an anchor that is down", Bounds.UNSUPPORTED, Scene::full, x -> x.anchor(0, 'r'));
        Bounds.refused("an anchor dropped aground", Bounds.UNSUPPORTED, Scene::full, x -> x.anchor(3, 'r'));
        Bounds.taken("an anchor that is up", Scene::full, x -> x.anchor(2, 'r'));
        Bounds.refused("an anchor that is up", Bounds.UNSUPPORTED, Scene::full, x -> x.weigh(2));
        Bounds.refused("an anchor that is up, aground", Bounds.UNSUPPORTED, Scene::full, x -> x.weigh(3));
        Bounds.taken("an anchor that is down", Scene::full, x -> x.weigh(0));
        Bounds.refused("an anchor that is down, aground", Bounds.UNSUPPORTED, RefusedTest::ashore, x -> x.weigh(0));
        Bounds.refused("an anchor down, dropped aground", Bounds.UNSUPPORTED, RefusedTest::ashore,
                x -> x.anchor(0, 's'));
        Bounds.refused("pulled off afloat", Bounds.UNSUPPORTED, Scene::full, x -> x.pullOff(0));
        Bounds.taken("pulled off aground", Scene::full, x -> x.pullOff(3));
        Bounds.taken("pulled off at anchor", RefusedTest::ashore, x -> x.pullOff(0));
    }

    /** Ship 0 has dragged onto a land. */
    private static GalleonWave ashore() {
        GalleonWave x = new GalleonWave();
        x.addLand(0, 0, 5);
        x.addShip(9, 0);
        x.anchor(0, 'r');
        x.setWind(8, 'w');
        x.pass(1);
        return x;
    }

    private static void wash() {
        Bounds.refused("washed by nobody", Bounds.UNSUPPORTED, Scene::full, x -> x.wash(2));
        Bounds.taken("washed by somebody", Scene::full, x -> x.wash(0));
    }

    private static void book() {
        Bounds.refused("booked aboard", Bounds.UNSUPPORTED, Scene::full, x -> x.book(0, 0, true));
        Bounds.refused("not booked aboard", Bounds.UNSUPPORTED, Scene::full, x -> x.book(0, 1, false));
        Bounds.refused("booked with another land", Bounds.UNSUPPORTED, Scene::full, x -> x.book(0, 5, true));
        Bounds.refused("not booked with this land", Bounds.UNSUPPORTED, Scene::full, x -> x.book(2, 6, false));
        Bounds.taken("booked again", Scene::full, x -> Check.due("people", x.book(1, 5, true), 2));
        Bounds.taken("not booked any more", Scene::full, x -> Check.due("people", x.book(1, 6, false), 1));
        Bounds.taken("booked besides", Scene::full, x -> Check.due("people", x.book(1, 7, true), 3));
        Bounds.taken("not booked at all", Scene::full, x -> Check.due("people", x.book(0, 7, false), 0));
    }

    private static void send() {
        for (int wind = 0; wind <= 12; wind++) {
            int force = wind;
            Bounds.Sea sea = () -> {
                GalleonWave x = Scene.full();
                x.setWind(force, 'e');
                return x;
            };
            if (wind <= 7) {
                Bounds.taken("a tender in a wind of " + wind, sea, x -> x.send(1, 0, true));
            } else {
                Bounds.refused("a tender in a wind of " + wind, Bounds.UNSUPPORTED, sea, x -> x.send(1, 0, true));
            }
        }
    }

    private static void getSpeaker() {
        Bounds.refused("off the air", Bounds.NO_ELEMENT, Scene::full, x -> x.getSpeaker(2));
        Bounds.refused("ahead of the first hour", Bounds.NO_ELEMENT, Scene::station, x -> x.getSpeaker(0));
        Bounds.taken("on the air", Scene::full, x -> x.getSpeaker(0));
    }

    private static void sell() {
        for (int sold = 1; sold <= 20; sold++) {
            int many = sold;
            Bounds.Sea sea = () -> {
                GalleonWave x = Scene.full();
                x.sell(2, many);
                return x;
            };
            Bounds.refused("21 in all, of which " + many, Bounds.UNSUPPORTED, sea, x -> x.sell(2, 21 - many));
            if (many < 20) {
                Bounds.taken("20 in all, of which " + many, sea, x -> x.sell(2, 20 - many));
            }
        }
    }

    /** Two offences of land 3 and one of land 2, by tenders; ship 3 is inside of land 3, ship 0 of neither. */
    private static GalleonWave suspected() {
        GalleonWave x = Scene.full();
        x.addAct(2, 9, 40, 1);
        x.send(3, 3, false);
        x.send(2, 3, false);
        return x;
    }

    private static GalleonWave convicted() {
        GalleonWave x = suspected();
        x.addAct(3, 9, 40, 1);
        x.send(3, 0, false);
        return x;
    }

    private static void raid() {
        GalleonWave two = suspected();
        Check.due("evidence of 2", two.getEvidence(3), 2);
        Check.due("evidence of 1", two.getEvidence(2), 1);
        Check.due("inside", two.getInside(3), 3);
        Check.due("evidence of 3", convicted().getEvidence(3), 3);
        Bounds.refused("evidence of 2", Bounds.UNSUPPORTED, RefusedTest::suspected, x -> x.raid(3, 3));
        Bounds.taken("evidence of 3", RefusedTest::convicted, x -> x.raid(3, 3));
        Bounds.refused("outside of the line", Bounds.UNSUPPORTED, RefusedTest::convicted, x -> x.raid(3, 0));
        Bounds.refused("outside, and no evidence", Bounds.UNSUPPORTED, RefusedTest::convicted, x -> x.raid(1, 0));
        Bounds.refused("inside of another land only", Bounds.UNSUPPORTED, RefusedTest::convicted, x -> x.raid(2, 3));
    }

    /** Ship 1 is as far from ship 0 as told. */
    private static GalleonWave apart(int east, int north) {
        GalleonWave x = Scene.sea();
        Scene.addStation(x, 0, 0, 3, 20);
        Scene.addStation(x, east, north, 4, 20);
        return x;
    }

    private static void board() {
        Bounds.refused("a ship boards itself", Bounds.ARGUMENT, Scene::full, x -> x.board(2, 2));
        int[][] far = {{11, 0}, {-11, 0}, {0, 11}, {0, -11}, {11, 11}, {10, -11}, {500, 500}};
        for (int[] to : far) {
            Bounds.refused("boards as far as " + to[0] + ", " + to[1], Bounds.UNSUPPORTED, () -> apart(to[0], to[1]),
                    x -> x.board(0, 1));
            Bounds.refused("boards back from " + to[0] + ", " + to[1], Bounds.UNSUPPORTED, () -> apart(to[0], to[1]),
                    x -> x.board(1, 0));
        }
        int[][] near = {{10, 0}, {-10, 0}, {0, 10}, {0, -10}, {10, 10}, {-10, 10}, {0, 0}};
        for (int[] to : near) {
            Bounds.taken("boards as far as " + to[0] + ", " + to[1], () -> apart(to[0], to[1]), x -> x.board(0, 1));
            Bounds.taken("boards back from " + to[0] + ", " + to[1], () -> apart(to[0], to[1]), x -> x.board(1, 0));
        }
    }

    private static void addAhead() {
        Bounds.refused("ahead of the same", Bounds.ARGUMENT, Scene::full, x -> x.addAhead(1, 1));
        Bounds.refused("told already", Bounds.UNSUPPORTED, Scene::full, x -> x.addAhead(2, 5));
        Bounds.refused("told the other way", Bounds.UNSUPPORTED, Scene::full, x -> x.addAhead(5, 2));
        Bounds.refused("told the other way over one", Bounds.UNSUPPORTED, Scene::full, x -> x.addAhead(5, 0));
        Bounds.refused("told the other way over two", Bounds.UNSUPPORTED, Scene::full, x -> x.addAhead(5, 4));
        Bounds.taken("follows, but is not told", Scene::full, x -> Check.due("told", x.addAhead(4, 5), 4));
        Bounds.taken("not told", Scene::full, x -> Check.due("told", x.addAhead(5, 1), 4));
    }

    private static void getDate() {
        Bounds.Sea undated = () -> {
            GalleonWave x = Scene.station();
            x.pass(1);
            x.addRecording(-1, -1, -1);
            x.addRecording(3, -1, -1);
            return x;
        };
        Bounds.refused("two of one hour", Bounds.NO_ELEMENT, undated, x -> x.getDate(0, false));
        Bounds.refused("two of one hour, the latest", Bounds.NO_ELEMENT, undated, x -> x.getDate(1, true));
        Bounds.refused("no such recording of no dating", Bounds.INDEX, undated, x -> x.getDate(2, true));
        Bounds.taken("two of two hours", undated, x -> {
            x.pass(1);
            Check.due("the earliest", x.getDate(0, false), 0);
            Check.due("the latest", x.getDate(1, true), 1);
        });
    }

    private static void means() {
        Bounds.refused("no hours kept", Bounds.ARITHMETIC, Scene::station, GalleonWave::getNightShare);
        Bounds.refused("no ships", Bounds.ARITHMETIC, Scene::sea, GalleonWave::getMeanCrew);
        Bounds.taken("one hour kept", Scene::station, x -> {
            x.pass(1);
            Check.dueReal("share", x.getNightShare(), 1);
        });
        Bounds.taken("one ship", Scene::station, x -> Check.dueReal("crew", x.getMeanCrew(), 1));
    }
}
