/** Promises 9 to 21: ships, anchors, grounding, generators, fuel, food and salt. */
public final class ShipsTest {
    public static void main(String[] args) {
        addShip();
        getPlace();
        getInside();
        anchor();
        drag();
        drift();
        weigh();
        aground();
        pullOff();
        addGenerator();
        setGenerator();
        generatorsInTurn();
        fuel();
        food();
        salt();
        wash();
        Check.end("ShipsTest");
    }

    private static void addShip() {
        GalleonWave x = new GalleonWave();
        Check.dueArgument("east 1000", () -> x.addShip(1000, 0));
        Check.dueArgument("east -1000", () -> x.addShip(-1000, 0));
        Check.dueArgument("north 1000", () -> x.addShip(0, 1000));
        Check.dueArgument("north -1000", () -> x.addShip(0, -1000));
        Check.due("ship 0", x.addShip(999, -999), 0);
        Check.due("ship 1", x.addShip(-999, 999), 1);
        Check.due("ship 2", x.addShip(1, 2), 2);
        Check.due("ship 3", x.addShip(1, 2), 3);
        Check.dueArgument("the first exception", () -> x.addShip(1000, 0));
        Check.dueState("a fifth ship", () -> x.addShip(0, 0));
        Check.due("its fuel", x.getFuel(3), 0);
        Check.due("its food", x.getFood(3), 0);
        Check.due("its salt", x.getSalt(3), 0);
        Check.due("its channel", x.getChannel(3), -1);
        Check.due("its place", x.getPlace(3, false), 2);
        Check.due("what it earned", x.getEarned(3), 0);
        Check.due("who listens", x.getListeners(3), 0);
        Check.due("on the air", x.isOnAir(3), false);
        Check.due("mutiny", x.isMutiny(3), false);
        Check.dueUnsupported("its anchor is up", () -> x.weigh(3));
    }

    private static void getPlace() {
        GalleonWave x = new GalleonWave();
        x.addShip(12, -34);
        Check.due("east", x.getPlace(0, true), 12);
        Check.due("north", x.getPlace(0, false), -34);
        Check.dueIndex("ship 1", () -> x.getPlace(1, true));
        Check.dueIndex("ship -1", () -> x.getPlace(-1, false));
    }

    private static void getInside() {
        GalleonWave x = new GalleonWave();
        Check.dueIndex("no ship", () -> x.getInside(0));
        x.addShip(100, 0);
        x.addShip(0, 31);
        x.addShip(-30, 30);
        Check.due("without lands", x.getInside(0), -1);
        x.addLand(0, 0, 5);
        x.addLand(60, 0, 5);
        Check.due("outside of both", x.getInside(0), -1);
        Check.due("just outside", x.getInside(1), -1);
        Check.due("just inside", x.getInside(2), 0);
        x.addAct(1, 0, 40, 0);
        Check.due("inside of 1", x.getInside(0), 1);
        x.addAct(0, 2, 100, 0);
        Check.due("not yet inside of 0", x.getInside(0), 1);
        x.pass(2);
        Check.due("inside of both, the lowest", x.getInside(0), 0);
        x.addAct(0, 2, 0, 0);
        Check.due("outside of 0 again", x.getInside(0), 1);
        Check.due("a line of 0", x.getInside(2), -1);
        x.addShip(0, 0);
        Check.due("at the very place", x.getInside(3), 0);
        Check.dueIndex("ship 4", () -> x.getInside(4));
        Check.dueIndex("ship -1", () -> x.getInside(-1));
    }

    private static void anchor() {
        GalleonWave x = new GalleonWave();
        Check.dueIndex("no ship first", () -> x.anchor(0, 'x'));
        x.addLand(0, 0, 5);
        x.addShip(100, 0);
        x.addShip(110, 0);
        x.addShip(120, 0);
        x.addShip(5, 5);
        Check.dueArgument("no such bottom", () -> x.anchor(0, 'S'));
        Check.due("sand", x.anchor(0, 's'), 8);
        Check.due("mud", x.anchor(1, 'm'), 6);
        Check.due("rock", x.anchor(2, 'r'), 4);
        Check.dueArgument("the first exception", () -> x.anchor(0, 'x'));
        Check.dueUnsupported("it is down", () -> x.anchor(0, 'r'));
        Check.dueUnsupported("it is aground", () -> x.anchor(3, 's'));
        Check.dueIndex("ship 4", () -> x.anchor(4, 's'));
        Check.dueIndex("ship -1", () -> x.anchor(-1, 's'));
        x.pullOff(3);
        x.setWind(9, 'e');
        x.pass(1);
        Check.due("still sand", x.getPlace(0, true), 101);
    }

    private static void drag() {
        char[] bottoms = {'s', 'm', 'r'};
        int[] holds = {8, 6, 4};
        for (int i = 0; i < bottoms.length; i++) {
            for (int wind = 0; wind <= 12; wind++) {
                GalleonWave x = new GalleonWave();
                x.addShip(0, 0);
                x.setTide(3, 2);
                x.anchor(0, bottoms[i]);
                x.setWind(wind, 's');
                x.pass(2);
                int dragged = wind > holds[i] ? 2 * (wind - holds[i]) : 0;
                Check.due("north on " + bottoms[i] + " with " + wind, x.getPlace(0, false), -dragged);
                Check.due("east on " + bottoms[i] + " with " + wind, x.getPlace(0, true), 0);
            }
        }
    }

    private static void drift() {
        for (int wind = 0; wind <= 12; wind++) {
            GalleonWave x = new GalleonWave();
            x.addShip(0, 0);
            x.setTide(1, -1);
            x.setWind(wind, 'e');
            x.pass(1);
            Check.due("east with " + wind, x.getPlace(0, true), wind / 2 + 1);
            Check.due("north with " + wind, x.getPlace(0, false), -1);
        }
        GalleonWave x = new GalleonWave();
        x.addShip(997, -998);
        x.addShip(-998, 997);
        x.setTide(-2, 2);
        x.setWind(12, 'e');
        x.pass(1);
        Check.due("as far as places go, by wind and tide together", x.getPlace(0, true), 999);
        x.pass(1);
        Check.due("there it stays", x.getPlace(0, true), 999);
        x.setWind(12, 's');
        x.pass(1);
        Check.due("to the south", x.getPlace(0, false), -998);
        x.pass(3);
        Check.due("as far to the south", x.getPlace(0, false), -999);
        Check.due("to the north", x.getPlace(1, false), 983);
        x.setWind(12, 'n');
        x.pass(10);
        Check.due("as far to the north", x.getPlace(1, false), 999);
        x.setWind(12, 'w');
        x.pass(96);
        x.pass(96);
        x.pass(96);
        x.pass(96);
        Check.due("as far to the west", x.getPlace(0, true), -999);
        Check.due("as far to the west", x.getPlace(1, true), -999);
    }

    private static void weigh() {
        GalleonWave x = new GalleonWave();
        Check.dueIndex("no ship", () -> x.weigh(0));
        x.addShip(0, 0);
        x.addShip(0, 0);
        Check.dueUnsupported("it is up", () -> x.weigh(0));
        x.pass(2);
        x.anchor(0, 's');
        x.pass(3);
        Check.due("hours it was down", x.weigh(0), 3);
        Check.dueUnsupported("it is up again", () -> x.weigh(0));
        x.pass(4);
        x.anchor(0, 'r');
        Check.due("no hour at all", x.weigh(0), 0);
        x.anchor(0, 'm');
        x.pass(96);
        Check.due("of the last time only", x.weigh(0), 96);
        Check.dueIndex("ship 2", () -> x.weigh(2));
        Check.dueIndex("ship -1", () -> x.weigh(-1));
    }

    private static void aground() {
        GalleonWave x = new GalleonWave();
        Check.dueIndex("no ship", () -> x.isAground(0));
        x.addLand(0, 0, 5);
        x.addLand(50, 0, 10);
        x.addShip(6, -6);
        x.addShip(-5, 5);
        x.addShip(40, 10);
        x.addShip(20, 0);
        Check.due("just off", x.isAground(0), false);
        Check.due("just aground", x.isAground(1), true);
        Check.due("aground on another land", x.isAground(2), true);
        Check.due("between them", x.isAground(3), false);
        x.setWind(2, 'w');
        x.setTide(2, 2);
        x.pass(1);
        Check.due("one aground does not drift", x.getPlace(1, true), -5);
        Check.due("nor by the tide", x.getPlace(1, false), 5);
        Check.due("nor on another land", x.getPlace(2, true), 40);
        Check.due("one off does", x.getPlace(0, true), 7);
        x.anchor(3, 'r');
        x.setWind(12, 'w');
        x.pass(2);
        Check.due("one at anchor drags ashore", x.getPlace(3, true), 5);
        Check.due("and is aground", x.isAground(3), true);
        x.setWind(12, 'e');
        x.pass(3);
        Check.due("one aground does not drag", x.getPlace(3, true), 5);
        Check.dueUnsupported("it cannot weigh its anchor", () -> x.weigh(3));
        Check.dueUnsupported("nor drop it", () -> x.anchor(3, 's'));
        Check.dueUnsupported("one without can't drop it", () -> x.anchor(1, 's'));
        Check.dueUnsupported("one without can't weigh it", () -> x.weigh(1));
        x.pullOff(3);
        Check.due("its anchor stayed down", x.weigh(3), 5);
        Check.dueIndex("ship 4", () -> x.isAground(4));
        Check.dueIndex("ship -1", () -> x.isAground(-1));
        GalleonWave late = new GalleonWave();
        late.addShip(0, 0);
        late.addLand(3, 0, 3);
        Check.due("aground as soon as there is a land", late.isAground(0), true);
    }

    private static void pullOff() {
        GalleonWave x = new GalleonWave();
        Check.dueIndex("no ship", () -> x.pullOff(0));
        x.addLand(0, 0, 5);
        x.addShip(14, 3);
        x.addShip(4, 3);
        Check.dueUnsupported("it is not aground", () -> x.pullOff(0));
        x.setWind(6, 'w');
        x.pass(3);
        Check.due("aground", x.getPlace(0, true), 5);
        Check.due("the price", x.pullOff(0), -500);
        Check.due("east where it was told at first", x.getPlace(0, true), 14);
        Check.due("north where it was told at first", x.getPlace(0, false), 3);
        Check.due("off", x.isAground(0), false);
        x.pass(1);
        x.anchor(0, 's');
        x.weigh(0);
        x.pass(2);
        Check.due("the price again", x.pullOff(0), -1000);
        Check.due("where its anchor was dropped last", x.getPlace(0, true), 11);
        Check.due("the price for one that was told aground", x.pullOff(1), -1500);
        Check.due("it is back where it was", x.isAground(1), true);
        Check.due("at", x.getPlace(1, true), 4);
        Check.due("the money then", x.getMoney(), -1500);
        GalleonWave y = new GalleonWave();
        y.addLand(0, -20, 5);
        y.addShip(3, -8);
        y.setWind(10, 's');
        y.pass(2);
        Check.due("aground to the south", y.getPlace(0, false), -18);
        y.pullOff(0);
        Check.due("north where it was told at first", y.getPlace(0, false), -8);
        y.setWind(4, 'n');
        y.pass(2);
        y.anchor(0, 'r');
        y.setWind(12, 's');
        y.pass(2);
        Check.due("dragged aground", y.isAground(0), true);
        y.pullOff(0);
        Check.due("north where its anchor was dropped last", y.getPlace(0, false), -4);
        Check.due("east where its anchor was dropped last", y.getPlace(0, true), 3);
        Check.dueIndex("ship 2", () -> x.pullOff(2));
        Check.dueIndex("ship -1", () -> x.pullOff(-1));
        Check.dueUnsupported("not aground any more", () -> x.pullOff(0));
    }

    private static void addGenerator() {
        GalleonWave x = new GalleonWave();
        Check.dueIndex("no ship first", () -> x.addGenerator(0, 0, 0));
        x.addShip(0, 0);
        Check.dueArgument("power 0", () -> x.addGenerator(0, 0, 5));
        Check.dueArgument("power 51", () -> x.addGenerator(0, 51, 5));
        Check.dueArgument("life 0", () -> x.addGenerator(0, 5, 0));
        Check.dueArgument("life 10000", () -> x.addGenerator(0, 5, 10000));
        Check.due("generator 0", x.addGenerator(0, 1, 9999), 0);
        Check.due("generator 1", x.addGenerator(0, 50, 1), 1);
        Check.dueArgument("the first exception", () -> x.addGenerator(0, 51, 1));
        Check.dueState("a third generator", () -> x.addGenerator(0, 5, 5));
        Check.dueIndex("ship 1", () -> x.addGenerator(1, 5, 5));
        Check.dueIndex("ship -1", () -> x.addGenerator(-1, 5, 5));
        x.addShip(0, 0);
        Check.due("another ship has its own", x.addGenerator(1, 5, 5), 0);
    }

    private static void setGenerator() {
        GalleonWave x = Scene.sea();
        Check.dueIndex("no ship", () -> x.setGenerator(0, 0, true));
        x.addShip(0, 0);
        Check.dueIndex("no generator", () -> x.setGenerator(0, 0, true));
        x.addGenerator(0, 7, 5);
        Check.dueIndex("generator 1", () -> x.setGenerator(0, 1, true));
        Check.dueIndex("generator -1", () -> x.setGenerator(0, -1, true));
        Check.dueIndex("ship 1", () -> x.setGenerator(1, 0, true));
        Check.dueIndex("ship -1", () -> x.setGenerator(-1, 0, true));
        Scene.supply(x, 0, 1000, 0, -1);
        x.pass(1);
        Check.due("off at first", x.getFuel(0), 1000);
        Check.due("ran no hour", x.setGenerator(0, 0, true), 0);
        x.pass(3);
        Check.due("fuel for 3 hours", x.getFuel(0), 979);
        Check.due("ran 3 hours", x.setGenerator(0, 0, false), 3);
        x.pass(3);
        Check.due("off again", x.getFuel(0), 979);
        Check.due("still 3 hours", x.setGenerator(0, 0, true), 3);
        x.pass(9);
        Check.due("its life is over after 5", x.getFuel(0), 965);
        Check.due("ran 5 hours", x.setGenerator(0, 0, true), 5);
    }

    private static void generatorsInTurn() {
        GalleonWave x = Scene.sea();
        x.addShip(0, 0);
        x.addGenerator(0, 10, 99);
        x.addGenerator(0, 4, 99);
        x.setGenerator(0, 0, true);
        x.setGenerator(0, 1, true);
        Scene.supply(x, 0, 37, 0, -1);
        x.pass(1);
        Check.due("both ran", x.getFuel(0), 23);
        x.pass(1);
        Check.due("both again", x.getFuel(0), 9);
        x.pass(1);
        Check.due("too little for 0, but 1 runs", x.getFuel(0), 5);
        x.pass(1);
        Check.due("1 again", x.getFuel(0), 1);
        x.pass(1);
        Check.due("too little for either", x.getFuel(0), 1);
        Check.due("0 ran", x.setGenerator(0, 0, true), 2);
        Check.due("1 ran", x.setGenerator(0, 1, true), 4);
        Scene.supply(x, 0, 11, 0, -1);
        x.pass(1);
        Check.due("0 is looked at first", x.getFuel(0), 2);
        Check.due("0 ran once more", x.setGenerator(0, 0, true), 3);
        Check.due("1 did not", x.setGenerator(0, 1, true), 4);
        Scene.supply(x, 0, 5, 0, -1);
        x.pass(1);
        Check.due("1 takes what is too little for 0", x.getFuel(0), 3);
        Scene.supply(x, 0, 1, 0, -1);
        x.pass(1);
        Check.due("as much as it uses is enough", x.getFuel(0), 0);
    }

    private static void fuel() {
        GalleonWave x = Scene.sea();
        Check.dueIndex("no ship", () -> x.getFuel(0));
        x.addShip(0, 0);
        x.addShip(0, 0);
        Scene.supply(x, 0, 9999, 0, -1);
        Scene.supply(x, 0, 9999, 0, -1);
        Check.due("fuel adds up", x.getFuel(0), 19998);
        Check.due("of another ship", x.getFuel(1), 0);
        Check.dueIndex("ship 2", () -> x.getFuel(2));
        Check.dueIndex("ship -1", () -> x.getFuel(-1));
    }

    private static void food() {
        GalleonWave x = Scene.sea();
        Check.dueIndex("no ship", () -> x.getFood(0));
        x.addShip(0, 0);
        x.addPerson(0, 'e');
        x.addPerson(0, 'd');
        x.addPerson(0, 'd');
        Scene.supply(x, 0, 0, 10, -1);
        x.pass(1);
        Check.due("nobody eats", x.getFood(0), 10);
        Scene.board(x, 0, 0);
        x.pass(1);
        Check.due("one eats", x.getFood(0), 9);
        Scene.board(x, 0, 1);
        Scene.board(x, 0, 2);
        x.pass(2);
        Check.due("three eat", x.getFood(0), 3);
        x.pass(1);
        Check.due("just enough", x.getFood(0), 0);
        Scene.supply(x, 0, 0, 2, -1);
        x.pass(1);
        Check.due("all that is left", x.getFood(0), 0);
        Check.dueIndex("ship 1", () -> x.getFood(1));
        Check.dueIndex("ship -1", () -> x.getFood(-1));
    }

    private static void salt() {
        GalleonWave x = new GalleonWave();
        Check.dueIndex("no ship", () -> x.getSalt(0));
        x.addShip(0, 0);
        x.addShip(500, 0);
        x.setWind(6, 'n');
        x.pass(5);
        Check.due("a wind of 6", x.getSalt(0), 0);
        x.setWind(7, 'n');
        x.pass(1);
        Check.due("a wind of 7", x.getSalt(0), 1);
        Check.due("on each aerial", x.getSalt(1), 1);
        x.setWind(12, 's');
        x.pass(1);
        Check.due("a wind of 12", x.getSalt(0), 2);
        x.pass(6);
        Check.due("8 hours", x.getSalt(0), 8);
        x.pass(6);
        Check.due("up to 8", x.getSalt(0), 8);
        x.addShip(0, 0);
        x.pass(1);
        Check.due("on a new one", x.getSalt(2), 1);
        Check.dueIndex("ship 3", () -> x.getSalt(3));
        Check.dueIndex("ship -1", () -> x.getSalt(-1));
    }

    private static void wash() {
        GalleonWave x = Scene.sea();
        Check.dueIndex("no ship", () -> x.wash(0));
        x.addShip(0, 0);
        x.addShip(0, 0);
        x.addPerson(0, 'e');
        Scene.board(x, 1, 0);
        x.setWind(7, 'n');
        x.pass(3);
        Check.dueUnsupported("nobody is aboard of it", () -> x.wash(0));
        Check.due("still there", x.getSalt(0), 3);
        Check.due("an engineer washes", x.wash(1), 3);
        Check.due("none is left", x.getSalt(1), 0);
        Check.due("nothing to wash", x.wash(1), 0);
        Check.dueIndex("ship 2", () -> x.wash(2));
        Check.dueIndex("ship -1", () -> x.wash(-1));
    }
}
