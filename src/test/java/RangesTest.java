/**
 * Each range of the promises: the least and the greatest number that is taken, the ones next to them that are refused,
 * and the numbers of lands, towns, ships, generators, people and recordings that there are.
 */
public final class RangesTest {
    public static void main(String[] args) {
        lands();
        acts();
        weather();
        towns();
        hours();
        ships();
        generators();
        power();
        people();
        tenders();
        plans();
        spots();
        recordings();
        shipNumbers();
        landNumbers();
        otherNumbers();
        ofNothing();
        Check.end("RangesTest");
    }

    /** A land, a town and a ship, of which the ship has a generator, and one person. */
    private static GalleonWave few() {
        GalleonWave x = Scene.sea();
        x.addTown(0, 50, 60, 70);
        x.addShip(-20, 30);
        x.addGenerator(0, 30, 400);
        x.addPerson(0, 'd');
        return x;
    }

    private static void lands() {
        Bounds.range("a land to the east", -999, 999, RangesTest::few, (x, n) -> x.addLand(n, 0, 5));
        Bounds.range("a land to the north", -999, 999, RangesTest::few, (x, n) -> x.addLand(0, n, 5));
        Bounds.range("shallows", 1, 50, RangesTest::few, (x, n) -> x.addLand(0, 0, n));
    }

    private static void acts() {
        Bounds.range("an act from the hour 0 on", 0, 99999, RangesTest::few, (x, n) -> x.addAct(0, n, 40, 1));
        Bounds.range("an act from the hour 7 on", 7, 99999, RangesTest::later, (x, n) -> x.addAct(0, n, 40, 1));
        Bounds.range("a line", 0, 300, RangesTest::few, (x, n) -> x.addAct(0, 0, n, 1));
        Bounds.range("what is forbidden", 0, 7, RangesTest::few, (x, n) -> x.addAct(0, 0, 40, n));
    }

    private static GalleonWave later() {
        GalleonWave x = few();
        x.pass(7);
        return x;
    }

    private static void weather() {
        Bounds.range("a wind", 0, 12, RangesTest::few, (x, n) -> x.setWind(n, 's'));
        Bounds.letters("a way", "nesw", RangesTest::few, (x, c) -> x.setWind(6, c));
        Bounds.range("a tide to the east", -3, 3, RangesTest::few, (x, n) -> x.setTide(n, 0));
        Bounds.range("a tide to the north", -3, 3, RangesTest::few, (x, n) -> x.setTide(0, n));
    }

    private static void towns() {
        Bounds.range("a town to the east", -999, 999, RangesTest::few, (x, n) -> x.addTown(0, n, 0, 5));
        Bounds.range("a town to the north", -999, 999, RangesTest::few, (x, n) -> x.addTown(0, 0, n, 5));
        Bounds.range("thousands", 1, 999, RangesTest::few, (x, n) -> x.addTown(0, 0, 0, n));
    }

    private static void hours() {
        Bounds.range("hours", 1, 96, RangesTest::few, (x, n) -> x.pass(n));
    }

    private static void ships() {
        Bounds.range("a ship to the east", -999, 999, RangesTest::few, (x, n) -> x.addShip(n, 0));
        Bounds.range("a ship to the north", -999, 999, RangesTest::few, (x, n) -> x.addShip(0, n));
        Bounds.letters("a bottom", "smr", RangesTest::few, (x, c) -> x.anchor(0, c));
    }

    private static void generators() {
        Bounds.range("a generator of the power", 1, 50, RangesTest::few, (x, n) -> x.addGenerator(0, n, 5));
        Bounds.range("a generator of the life", 1, 9999, RangesTest::few, (x, n) -> x.addGenerator(0, 5, n));
    }

    private static void power() {
        Bounds.range("a power", 0, 50, RangesTest::few, (x, n) -> x.setPower(0, n));
    }

    private static void people() {
        Bounds.letters("a kind", "de", RangesTest::few, (x, c) -> x.addPerson(0, c));
    }

    private static void tenders() {
        Bounds.range("fuel", 0, 9999, RangesTest::few, (x, n) -> x.load(0, n, 0, -1));
        Bounds.range("food", 0, 999, RangesTest::few, (x, n) -> x.load(0, 0, n, -1));
        Bounds.range("a crystal", -1, 9, RangesTest::few, (x, n) -> x.load(0, 0, 0, n));
    }

    private static void plans() {
        Bounds.range("an hour of the day", 0, 23, RangesTest::few, (x, n) -> x.plan(0, n, 100));
        Bounds.range("a tape to plan", 100, 199, Scene::full, (x, n) -> x.plan(0, 7, n));
        Bounds.range("somebody of one to plan", -1, 0, RangesTest::few, (x, n) -> x.plan(0, 7, n));
        Bounds.range("somebody of 12 to plan", -1, 11, Scene::full, (x, n) -> x.plan(0, 7, n));
        Bounds.refused("a tone to plan", Bounds.ARGUMENT, Scene::full, x -> x.plan(0, 7, 200));
    }

    private static void spots() {
        Bounds.range("spots", 1, 20, RangesTest::few, (x, n) -> x.sell(0, n));
    }

    private static void recordings() {
        Bounds.range("a recording's channel", -1, 9, RangesTest::few, (x, n) -> x.addRecording(n, -1, -1));
        Bounds.range("a recording's generators", -1, 3, RangesTest::few, (x, n) -> x.addRecording(-1, n, -1));
        Bounds.range("a recorded tape or tone", 100, 200, RangesTest::few, (x, n) -> x.addRecording(-1, -1, n));
        Bounds.range("somebody of one, recorded", -1, 0, RangesTest::few, (x, n) -> x.addRecording(-1, -1, n));
        Bounds.range("somebody of 12, recorded", -1, 11, RangesTest::twelve, (x, n) -> x.addRecording(-1, -1, n));
    }

    private static GalleonWave twelve() {
        GalleonWave x = Scene.sea();
        for (int i = 0; i < 12; i++) {
            x.addPerson(0, 'd');
        }
        return x;
    }

    /** Four ships of which nothing more is known, so that each call takes all four. */
    private static GalleonWave fleet() {
        GalleonWave x = Scene.sea();
        x.addTown(0, 0, 0, 5);
        for (int i = 0; i < 4; i++) {
            x.addShip(i, 0);
            x.addPerson(0, 'e');
            Scene.board(x, i, i);
        }
        return x;
    }

    private static GalleonWave strandedFleet() {
        GalleonWave x = fleet();
        x.addLand(0, 0, 50);
        return x;
    }

    private static GalleonWave anchoredFleet() {
        GalleonWave x = fleet();
        for (int i = 0; i < 4; i++) {
            x.anchor(i, 's');
            x.addGenerator(i, 5, 5);
            x.addGenerator(i, 6, 6);
        }
        return x;
    }

    private static void shipNumbers() {
        Bounds.numbers("getPlace", 4, RangesTest::fleet, (x, n) -> x.getPlace(n, true));
        Bounds.numbers("getInside", 4, RangesTest::fleet, (x, n) -> x.getInside(n));
        Bounds.numbers("anchor", 4, RangesTest::fleet, (x, n) -> x.anchor(n, 's'));
        Bounds.numbers("weigh", 4, RangesTest::anchoredFleet, (x, n) -> x.weigh(n));
        Bounds.numbers("isAground", 4, RangesTest::fleet, (x, n) -> x.isAground(n));
        Bounds.numbers("pullOff", 4, RangesTest::strandedFleet, (x, n) -> x.pullOff(n));
        Bounds.numbers("addGenerator", 4, RangesTest::fleet, (x, n) -> x.addGenerator(n, 5, 5));
        Bounds.numbers("setGenerator of a ship", 4, RangesTest::anchoredFleet, (x, n) -> x.setGenerator(n, 1, true));
        Bounds.numbers("setGenerator", 2, RangesTest::anchoredFleet, (x, n) -> x.setGenerator(3, n, true));
        Bounds.numbers("setGenerator of one", 1, RangesTest::few, (x, n) -> x.setGenerator(0, n, true));
        Bounds.numbers("setGenerator of none", 0, RangesTest::fleet, (x, n) -> x.setGenerator(2, n, true));
        Bounds.numbers("getFuel", 4, RangesTest::fleet, (x, n) -> x.getFuel(n));
        Bounds.numbers("getFood", 4, RangesTest::fleet, (x, n) -> x.getFood(n));
        Bounds.numbers("getSalt", 4, RangesTest::fleet, (x, n) -> x.getSalt(n));
        Bounds.numbers("wash", 4, RangesTest::fleet, (x, n) -> x.wash(n));
        Bounds.numbers("setPower", 4, RangesTest::fleet, (x, n) -> x.setPower(n, 9));
        Bounds.numbers("getChannel", 4, RangesTest::fleet, (x, n) -> x.getChannel(n));
        Bounds.numbers("isOnAir", 4, RangesTest::fleet, (x, n) -> x.isOnAir(n));
        Bounds.numbers("getSignal of a ship", 4, RangesTest::fleet, (x, n) -> x.getSignal(n, 0));
        Bounds.numbers("getListeners", 4, RangesTest::fleet, (x, n) -> x.getListeners(n));
        Bounds.numbers("send to a ship", 4, RangesTest::fleet, (x, n) -> x.send(0, n, true));
        Bounds.numbers("plan", 4, RangesTest::fleet, (x, n) -> x.plan(n, 0, 100));
        Bounds.numbers("getSpeaker", 4, RangesTest::sending, (x, n) -> x.getSpeaker(n));
        Bounds.numbers("isMutiny", 4, RangesTest::fleet, (x, n) -> x.isMutiny(n));
        Bounds.numbers("sell", 4, RangesTest::fleet, (x, n) -> x.sell(n, 3));
        Bounds.numbers("bank", 4, RangesTest::sending, (x, n) -> x.bank(n));
        Bounds.numbers("getEarned", 4, RangesTest::fleet, (x, n) -> x.getEarned(n));
        Bounds.numbers("raid of a ship", 4, RangesTest::guilty, (x, n) -> x.raid(0, n));
        Bounds.numbers("board of ships but 4", 4, RangesTest::fleet, (x, n) -> x.board(n, n == 0 ? 1 : 0));
        Bounds.numbers("board of the other one", 4, RangesTest::fleet, (x, n) -> x.board(n == 0 ? 1 : 0, n));
    }

    private static GalleonWave sending() {
        GalleonWave x = Scene.sea();
        for (int i = 0; i < 4; i++) {
            Scene.addStation(x, 30 * i, 0, i, 20);
        }
        x.pass(1);
        return x;
    }

    /** Four lands with evidence, and ships inside of all of them. */
    private static GalleonWave guilty() {
        GalleonWave x = new GalleonWave();
        for (int i = 0; i < 4; i++) {
            x.addLand(i, i, 1);
            x.addAct(i, 0, 90, 1);
        }
        for (int i = 0; i < 4; i++) {
            x.addShip(60 + i, 0);
            for (int k = 0; k < 3; k++) {
                x.send(i, 0, false);
            }
        }
        return x;
    }

    private static void landNumbers() {
        Bounds.numbers("addAct", 4, RangesTest::guilty, (x, n) -> x.addAct(n, 0, 5, 5));
        Bounds.numbers("getLine", 4, RangesTest::guilty, (x, n) -> x.getLine(n));
        Bounds.numbers("addTown", 4, RangesTest::guilty, (x, n) -> x.addTown(n, 5, 5, 5));
        Bounds.numbers("addPerson", 4, RangesTest::guilty, (x, n) -> x.addPerson(n, 'd'));
        Bounds.numbers("load", 4, RangesTest::guilty, (x, n) -> x.load(n, 5, 5, 5));
        Bounds.numbers("book with a land", 4, RangesTest::guiltyOne, (x, n) -> x.book(n, 0, true));
        Bounds.numbers("send from a land", 4, RangesTest::guilty, (x, n) -> x.send(n, 2, true));
        Bounds.numbers("getEvidence", 4, RangesTest::guilty, (x, n) -> x.getEvidence(n));
        Bounds.numbers("raid by a land", 4, RangesTest::guilty, (x, n) -> x.raid(n, 3));
    }

    private static GalleonWave guiltyOne() {
        GalleonWave x = guilty();
        x.addPerson(2, 'd');
        return x;
    }

    private static void otherNumbers() {
        Bounds.numbers("getSignal at a town", 6, Scene::full, (x, n) -> x.getSignal(0, n));
        Bounds.numbers("getHeard", 6, Scene::full, (x, n) -> x.getHeard(n));
        Bounds.numbers("getHeard of one", 1, RangesTest::few, (x, n) -> x.getHeard(n));
        Bounds.numbers("getAboard", 12, Scene::full, (x, n) -> x.getAboard(n));
        Bounds.numbers("isTired", 12, Scene::full, (x, n) -> x.isTired(n));
        Bounds.numbers("book", 12, RangesTest::twelve, (x, n) -> x.book(0, n, true));
        Bounds.numbers("book not", 12, RangesTest::twelve, (x, n) -> x.book(0, n, false));
        Bounds.numbers("getChoices", 6, Scene::full, (x, n) -> x.getChoices(n));
        Bounds.numbers("getDate", 6, Scene::full, (x, n) -> x.getDate(n, false));
        Bounds.numbers("getDate, the latest", 6, Scene::full, (x, n) -> x.getDate(n, true));
        Bounds.numbers("addAhead", 6, RangesTest::six, (x, n) -> x.addAhead(n, n == 0 ? 1 : 0));
        Bounds.numbers("addAhead of another", 6, RangesTest::six, (x, n) -> x.addAhead(n == 0 ? 1 : 0, n));
        Bounds.numbers("addAhead of the same, if there is", 0, RangesTest::few, (x, n) -> x.addAhead(n, n));
    }

    private static GalleonWave six() {
        GalleonWave x = few();
        for (int i = 0; i < 6; i++) {
            x.addRecording(-1, -1, -1);
        }
        return x;
    }

    /** On a new sea there is no number 0 of anything. */
    private static void ofNothing() {
        Bounds.Sea none = GalleonWave::new;
        Bounds.Sea land = Scene::sea;
        Bounds.Use[] uses = {
            x -> x.addAct(0, 0, 0, 0), x -> x.getLine(0), x -> x.addTown(0, 0, 0, 1), x -> x.getPlace(0, true),
            x -> x.getInside(0), x -> x.anchor(0, 's'), x -> x.weigh(0), x -> x.isAground(0), x -> x.pullOff(0),
            x -> x.addGenerator(0, 1, 1), x -> x.setGenerator(0, 0, true), x -> x.getFuel(0), x -> x.getFood(0),
            x -> x.getSalt(0), x -> x.wash(0), x -> x.setPower(0, 1), x -> x.getChannel(0), x -> x.isOnAir(0),
            x -> x.getSignal(0, 0), x -> x.getHeard(0), x -> x.getListeners(0), x -> x.addPerson(0, 'd'),
            x -> x.getAboard(0), x -> x.isTired(0), x -> x.load(0, 0, 0, 0), x -> x.book(0, 0, true),
            x -> x.send(0, 0, true), x -> x.plan(0, 0, -1), x -> x.getSpeaker(0), x -> x.isMutiny(0),
            x -> x.sell(0, 1), x -> x.bank(0), x -> x.getEarned(0), x -> x.getEvidence(0), x -> x.raid(0, 0),
            x -> x.board(0, 0), x -> x.addAhead(0, 0), x -> x.getChoices(0), x -> x.getDate(0, true)
        };
        for (int i = 0; i < uses.length; i++) {
            Bounds.refused("call " + i + " of a new sea", Bounds.INDEX, none, uses[i]);
        }
        Bounds.refused("book without people", Bounds.INDEX, land, x -> x.book(0, 0, true));
        Bounds.refused("send without ships", Bounds.INDEX, land, x -> x.send(0, 0, true));
        Bounds.refused("raid without ships", Bounds.INDEX, land, x -> x.raid(0, 0));
        Bounds.refused("getSignal without towns", Bounds.INDEX, RangesTest::bareShip, x -> x.getSignal(0, 0));
        Bounds.refused("getSignal without ships", Bounds.INDEX, RangesTest::bareTown, x -> x.getSignal(0, 0));
    }

    private static GalleonWave bareShip() {
        GalleonWave x = new GalleonWave();
        x.addShip(0, 0);
        return x;
    }

    private static GalleonWave bareTown() {
        GalleonWave x = Scene.sea();
        x.addTown(0, 0, 0, 1);
        return x;
    }
}
