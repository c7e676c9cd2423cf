/** Sentences of the Terms about ships, generators, anchors, grounding and salt: each on both sides of its boundary. */
public final class TermsOfShipsTest {
    public static void main(String[] args) {
        noneAtFirst();
        fuelForAnHour();
        fuelOfTwo();
        lifeOver();
        lifeOfOff();
        offWithoutUse();
        bottoms();
        driftRoundedDown();
        staysWithin();
        staysWithinAtAnchor();
        windAndTideTogether();
        shallows();
        shallowsOfSeveral();
        agroundDoesNotMove();
        agroundAnchorStays();
        pulledOffToTold();
        pulledOffToDropped();
        pulledOffPrice();
        saltByWind();
        saltUpTo();
        saltBehindTheHour();
        washedBySomebody();
        anchorHours();
        Check.end("TermsOfShipsTest");
    }

    /** "each at a place, with fuel and food, none at first, and at most 2 generators" */
    private static void noneAtFirst() {
        GalleonWave x = new GalleonWave();
        for (int i = 0; i < 4; i++) {
            x.addShip(i, i);
            Check.due("fuel", x.getFuel(i), 0);
            Check.due("food", x.getFood(i), 0);
            Check.due("first generator", x.addGenerator(i, 50, 9999), 0);
            Check.due("second generator", x.addGenerator(i, 1, 1), 1);
            int ship = i;
            Check.dueState("third generator", () -> x.addGenerator(ship, 5, 5));
        }
    }

    /** A ship with so much fuel and one generator of that power that is on. */
    private static GalleonWave powered(int fuel, int power, int life) {
        GalleonWave x = Scene.sea();
        x.addShip(0, 0);
        x.addGenerator(0, power, life);
        x.setGenerator(0, 0, true);
        x.load(0, fuel, 0, -1);
        x.send(0, 0, false);
        return x;
    }

    /** "uses as many litres of fuel in an hour as its power" and "One that is on runs an hour, if there is fuel for it" */
    private static void fuelForAnHour() {
        int[] powers = {1, 2, 25, 49, 50};
        for (int power : powers) {
            int[] fuels = {0, power - 1, power, power + 1, 2 * power - 1, 2 * power};
            for (int fuel : fuels) {
                GalleonWave x = powered(fuel, power, 9999);
                x.pass(1);
                int ran = fuel >= power ? 1 : 0;
                Check.due("fuel of " + fuel + " for " + power, x.getFuel(0), fuel - ran * power);
                Check.due("hours on " + fuel + " for " + power, x.setGenerator(0, 0, true), ran);
                x.pass(1);
                Check.due("hours in two", x.setGenerator(0, 0, true), Math.min(2, fuel / power));
                Check.due("fuel after two", x.getFuel(0), fuel - Math.min(2, fuel / power) * power);
            }
        }
    }

    /** "the generator 0 is looked at first": the other one by the fuel that it leaves. */
    private static void fuelOfTwo() {
        for (int fuel = 0; fuel <= 14; fuel++) {
            GalleonWave x = powered(fuel, 7, 99);
            x.addGenerator(0, 5, 99);
            x.setGenerator(0, 1, true);
            x.pass(1);
            int first = fuel >= 7 ? 1 : 0;
            int second = fuel - 7 * first >= 5 ? 1 : 0;
            Check.due("0 on " + fuel, x.setGenerator(0, 0, true), first);
            Check.due("1 on " + fuel, x.setGenerator(0, 1, true), second);
            Check.due("left of " + fuel, x.getFuel(0), fuel - 7 * first - 5 * second);
        }
    }

    /** "and a life of hours": the last one runs, the next one does not. */
    private static void lifeOver() {
        int[] lives = {1, 2, 5, 95, 96};
        for (int life : lives) {
            GalleonWave x = powered(9999, 3, life);
            for (int hour = 1; hour <= life; hour += Math.max(1, life - 2)) {
                x.pass(hour == 1 ? 1 : Math.max(1, life - 2));
                Check.due("hour " + hour + " of " + life, x.setGenerator(0, 0, true), hour);
            }
            x.setGenerator(0, 0, false);
            GalleonWave y = powered(9999, 3, life);
            y.pass(life);
            Check.due("a life of " + life, y.setGenerator(0, 0, true), life);
            Check.due("its fuel", y.getFuel(0), 9999 - 3 * life);
            y.pass(3);
            Check.due("after a life of " + life, y.setGenerator(0, 0, true), life);
            Check.due("uses no fuel", y.getFuel(0), 9999 - 3 * life);
        }
        GalleonWave longest = powered(9999, 1, 9999);
        Scene.passLong(longest, 9997);
        Scene.supply(longest, 0, 9999, 0, -1);
        longest.pass(3);
        Check.due("the longest life", longest.setGenerator(0, 0, true), 9999);
        Check.due("no more than that", longest.getFuel(0), 9999);
    }

    /** A generator that is off, or lacks fuel, spends nothing of its life. */
    private static void lifeOfOff() {
        GalleonWave x = powered(10, 5, 3);
        x.pass(9);
        Check.due("two hours on 10", x.setGenerator(0, 0, false), 2);
        Scene.supply(x, 0, 100, 0, -1);
        x.pass(9);
        Check.due("none when off", x.setGenerator(0, 0, true), 2);
        x.pass(9);
        Check.due("one more", x.setGenerator(0, 0, true), 3);
        Check.due("100 without 5", x.getFuel(0), 95);
    }

    private static void offWithoutUse() {
        GalleonWave x = powered(100, 5, 99);
        x.addGenerator(0, 7, 99);
        x.pass(1);
        Check.due("the second is off at first", x.getFuel(0), 95);
        x.setGenerator(0, 1, true);
        x.setGenerator(0, 1, false);
        x.pass(1);
        Check.due("off again", x.getFuel(0), 90);
        x.setGenerator(0, 0, false);
        x.setGenerator(0, 1, true);
        x.pass(1);
        Check.due("the second alone", x.getFuel(0), 83);
    }

    /** "'s' sand holds up to a wind of 8, 'm' mud 6, 'r' rock 4" and "drags by as much as the wind is more than that" */
    private static void bottoms() {
        int[] holds = {8, 6, 4};
        for (int i = 0; i < 3; i++) {
            int[] winds = {0, holds[i] - 1, holds[i], holds[i] + 1, holds[i] + 2, 12};
            for (int wind : winds) {
                GalleonWave x = new GalleonWave();
                x.addShip(0, 0);
                Check.due("holds", x.anchor(0, "smr".charAt(i)), holds[i]);
                x.setTide(3, 3);
                x.setWind(wind, 'w');
                x.pass(1);
                Check.due("dragged by " + wind, x.getPlace(0, true), wind > holds[i] ? holds[i] - wind : 0);
                Check.due("no tide at anchor", x.getPlace(0, false), 0);
            }
        }
    }

    /** "another one drifts by half of the wind, rounded down, that way, and by the tide" */
    private static void driftRoundedDown() {
        int[] drifts = {0, 0, 1, 1, 2, 2, 3, 3, 4, 4, 5, 5, 6};
        for (int wind = 0; wind <= 12; wind++) {
            GalleonWave x = new GalleonWave();
            x.addShip(0, 0);
            x.setWind(wind, 's');
            x.pass(1);
            Check.due("south by " + wind, x.getPlace(0, false), -drifts[wind]);
            x.setTide(2, 3);
            x.pass(1);
            Check.due("south by " + wind + " and the tide", x.getPlace(0, false), 3 - 2 * drifts[wind]);
            Check.due("east by the tide", x.getPlace(0, true), 2);
        }
    }

    /** "it stays within the places": on each side, from as far as it drifts, one less and one more. */
    private static void staysWithin() {
        String ways = "nesw";
        for (int way = 0; way < 4; way++) {
            for (int left = 0; left <= 8; left++) {
                int sign = way < 2 ? 1 : -1;
                int end = sign * (999 - left);
                GalleonWave x = new GalleonWave();
                x.addShip(way % 2 == 1 ? end : 4, way % 2 == 1 ? 4 : end);
                x.setWind(12, ways.charAt(way));
                x.pass(1);
                boolean isEast = way % 2 == 1;
                Check.due("6 of " + left, x.getPlace(0, isEast), sign * Math.min(999, 999 - left + 6));
                Check.due("aside", x.getPlace(0, !isEast), 4);
                x.pass(2);
                Check.due("18 of " + left, x.getPlace(0, isEast), sign * 999);
                x.setWind(2, ways.charAt((way + 2) % 4));
                x.pass(1);
                Check.due("back", x.getPlace(0, isEast), sign * 998);
            }
        }
    }

    private static void staysWithinAtAnchor() {
        for (int left = 0; left <= 9; left++) {
            GalleonWave x = new GalleonWave();
            x.addShip(-999 + left, 999 - left);
            x.anchor(0, 'r');
            x.setWind(12, 'n');
            x.pass(1);
            Check.due("drags 8 of " + left, x.getPlace(0, false), Math.min(999, 999 - left + 8));
            x.setWind(12, 'w');
            x.pass(1);
            Check.due("drags 8 of " + left, x.getPlace(0, true), Math.max(-999, -999 + left - 8));
        }
    }

    /** Both move it in one step: a tide against the wind counts ahead of the end of the places. */
    private static void windAndTideTogether() {
        GalleonWave x = new GalleonWave();
        x.addShip(996, -996);
        x.setTide(-3, 3);
        x.setWind(12, 'e');
        x.pass(1);
        Check.due("6 less 3", x.getPlace(0, true), 999);
        Check.due("north", x.getPlace(0, false), -993);
        x.pass(1);
        Check.due("still", x.getPlace(0, true), 999);
        x.setWind(4, 'e');
        x.pass(1);
        Check.due("2 less 3", x.getPlace(0, true), 998);
    }

    /** "It is aground as long as it is not farther from a land than its shallows" */
    private static void shallows() {
        int[] shallows = {1, 2, 49, 50};
        for (int far : shallows) {
            GalleonWave x = new GalleonWave();
            x.addLand(-10, 20, far);
            x.addShip(-10 + far, 20);
            x.addShip(-10 - far, 20 + far);
            x.addShip(-11 - far, 20);
            x.addShip(-10, 21 + far);
            Check.due("aground to the east of " + far, x.isAground(0), true);
            Check.due("aground at the corner of " + far, x.isAground(1), true);
            Check.due("afloat to the west of " + far, x.isAground(2), false);
            Check.due("afloat to the north of " + far, x.isAground(3), false);
        }
    }

    /** Its line has nothing to do with it, and any land will do, the last one too. */
    private static void shallowsOfSeveral() {
        for (int land = 0; land < 4; land++) {
            GalleonWave x = new GalleonWave();
            for (int i = 0; i < 4; i++) {
                x.addLand(100 * i, 0, 5);
                x.addAct(i, 0, i == land ? 0 : 4, 0);
            }
            x.addShip(100 * land + 5, 5);
            x.addShip(100 * land + 6, 0);
            Check.due("aground on " + land, x.isAground(0), true);
            Check.due("outside of its line", x.getInside(0), -1);
            Check.due("afloat beside " + land, x.isAground(1), false);
        }
    }

    /** "it does not move then": by wind, by tide, at anchor or not. */
    private static void agroundDoesNotMove() {
        GalleonWave x = new GalleonWave();
        x.addShip(3, 3);
        x.addShip(-3, -3);
        x.anchor(1, 'r');
        x.addLand(0, 0, 3);
        x.setWind(12, 'e');
        x.setTide(3, 3);
        x.pass(5);
        Check.due("without an anchor", x.getPlace(0, true), 3);
        Check.due("nor north", x.getPlace(0, false), 3);
        Check.due("at anchor", x.getPlace(1, true), -3);
        Check.due("nor north", x.getPlace(1, false), -3);
        GalleonWave y = new GalleonWave();
        y.addShip(4, 4);
        y.addLand(0, 0, 3);
        y.setWind(12, 'e');
        y.pass(1);
        Check.due("one farther off moves", y.getPlace(0, true), 10);
    }

    /** "and can neither drop nor weigh its anchor, which stays as it is" */
    private static void agroundAnchorStays() {
        GalleonWave x = new GalleonWave();
        x.addLand(0, 0, 5);
        x.addShip(10, 0);
        x.addShip(10, 0);
        x.anchor(0, 'm');
        x.setWind(11, 'w');
        x.pass(1);
        Check.due("dragged by 5", x.getPlace(0, true), 5);
        Check.due("drifted by 5", x.getPlace(1, true), 5);
        Check.dueUnsupported("weigh", () -> x.weigh(0));
        Check.dueUnsupported("drop again", () -> x.anchor(0, 's'));
        Check.dueUnsupported("drop", () -> x.anchor(1, 's'));
        Check.dueUnsupported("weigh what is up", () -> x.weigh(1));
        x.pass(3);
        x.pullOff(0);
        x.pullOff(1);
        Check.due("at anchor still", x.weigh(0), 4);
        Check.dueUnsupported("up still", () -> x.weigh(1));
        GalleonWave y = new GalleonWave();
        y.addLand(0, 0, 5);
        y.addShip(10, 0);
        y.anchor(0, 'm');
        y.setWind(11, 'w');
        y.pass(1);
        y.pullOff(0);
        y.setWind(7, 'n');
        y.pass(1);
        Check.due("on mud still", y.getPlace(0, false), 1);
    }

    /** "or, if it never was, to where it was told at first" */
    private static void pulledOffToTold() {
        GalleonWave x = new GalleonWave();
        x.addLand(0, 0, 5);
        x.addShip(-12, 4);
        x.setWind(7, 'e');
        x.setTide(0, -1);
        x.pass(4);
        Check.due("aground east", x.getPlace(0, true), -3);
        Check.due("aground north", x.getPlace(0, false), 1);
        x.pullOff(0);
        Check.due("told east", x.getPlace(0, true), -12);
        Check.due("told north", x.getPlace(0, false), 4);
        Check.due("afloat", x.isAground(0), false);
        x.pass(4);
        Check.due("aground again", x.isAground(0), true);
        x.pullOff(0);
        Check.due("told east, the second time", x.getPlace(0, true), -12);
        Check.due("told north, the second time", x.getPlace(0, false), 4);
    }

    /** "back to where its anchor was dropped last": also if it was weighed after that, and of several the last. */
    private static void pulledOffToDropped() {
        GalleonWave x = new GalleonWave();
        x.addLand(0, 0, 5);
        x.addShip(-30, 9);
        x.setTide(3, -1);
        x.pass(2);
        x.anchor(0, 's');
        x.weigh(0);
        x.pass(3);
        x.anchor(0, 'm');
        x.weigh(0);
        x.pass(1);
        x.setTide(0, 0);
        x.setWind(6, 'e');
        x.pass(9);
        Check.due("aground", x.getPlace(0, true), -3);
        x.pullOff(0);
        Check.due("dropped last, east", x.getPlace(0, true), -15);
        Check.due("dropped last, north", x.getPlace(0, false), 4);
        x.anchor(0, 'r');
        x.setWind(9, 'e');
        x.pass(2);
        Check.due("dragged by 10", x.getPlace(0, true), -5);
        x.pullOff(0);
        Check.due("dropped in the same place, east", x.getPlace(0, true), -15);
        Check.due("down as it was", x.weigh(0), 2);
    }

    /** "a tug can pull it off for the price of 500" */
    private static void pulledOffPrice() {
        GalleonWave x = new GalleonWave();
        x.addLand(0, 0, 5);
        x.addShip(5, 0);
        Check.due("nothing yet", x.getMoney(), 0);
        Check.due("500", x.pullOff(0), -500);
        Check.due("aground where it was told", x.isAground(0), true);
        Check.due("1000", x.pullOff(0), -1000);
        Check.due("the money", x.getMoney(), -1000);
    }

    /** "Each hour of a wind of 7 or more adds 1 of salt" */
    private static void saltByWind() {
        for (int wind = 0; wind <= 12; wind++) {
            GalleonWave x = new GalleonWave();
            x.addShip(0, 0);
            x.addShip(500, 0);
            x.anchor(1, 's');
            x.setWind(wind, 'n');
            x.pass(3);
            Check.due("salt by " + wind, x.getSalt(0), wind >= 7 ? 3 : 0);
            Check.due("salt at anchor by " + wind, x.getSalt(1), wind >= 7 ? 3 : 0);
        }
    }

    /** "up to 8, to each aerial" */
    private static void saltUpTo() {
        GalleonWave x = new GalleonWave();
        x.addLand(0, 0, 5);
        x.addShip(0, 0);
        x.setWind(7, 'n');
        x.pass(2);
        for (int i = 1; i < 4; i++) {
            x.addShip(300, 100 * i);
        }
        for (int hour = 1; hour <= 12; hour++) {
            x.pass(1);
            Check.due("aground, hour " + hour, x.getSalt(0), Math.min(8, hour + 2));
            for (int i = 1; i < 4; i++) {
                Check.due("ship " + i + ", hour " + hour, x.getSalt(i), Math.min(8, hour));
            }
        }
        x.setWind(0, 'n');
        x.pass(96);
        Check.due("it stays", x.getSalt(3), 8);
    }

    /** "adds 1 of salt behind it": the hour itself is sent without. */
    private static void saltBehindTheHour() {
        GalleonWave x = Scene.sea();
        x.addTown(0, 60, 0, 5);
        Scene.addStation(x, 0, 0, 3, 37);
        x.setWind(7, 'n');
        Check.due("without salt", x.getSignal(0, 0), 74000 / 3610);
        x.pass(1);
        Check.due("heard in the hour", x.getHeard(0), 0);
        Check.due("with salt of 1", x.getSignal(0, 0), 66000 / 3610);
        x.pass(1);
        Check.due("not heard in the next", x.getHeard(0), -1);
        x.wash(0);
        x.pass(1);
        Check.due("heard again, washed", x.getHeard(0), 0);
    }

    /** "to wash it takes somebody of the crew aboard" */
    private static void washedBySomebody() {
        GalleonWave x = Scene.sea();
        x.addShip(0, 0);
        x.addPerson(0, 'd');
        x.addPerson(0, 'e');
        x.setWind(7, 'n');
        x.pass(10);
        Check.dueUnsupported("nobody", () -> x.wash(0));
        x.book(0, 1, true);
        Check.dueUnsupported("somebody booked", () -> x.wash(0));
        x.send(0, 0, false);
        Check.due("somebody", x.wash(0), 8);
        Check.due("clean", x.getSalt(0), 0);
        x.pass(1);
        Check.due("one hour", x.wash(0), 1);
    }

    /** "Returns how many hours it was down." */
    private static void anchorHours() {
        int[] hours = {0, 1, 2, 95, 96};
        for (int down : hours) {
            GalleonWave x = new GalleonWave();
            x.addShip(0, 0);
            x.pass(13);
            x.anchor(0, 's');
            for (int i = 0; i < down; i++) {
                x.pass(1);
            }
            Check.due("down", x.weigh(0), down);
            x.pass(5);
            x.anchor(0, 'm');
            Check.due("down anew", x.weigh(0), 0);
        }
    }
}
