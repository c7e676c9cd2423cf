/** Sentences of the Terms about places, time, lands, wind and tide: each on both sides of its boundary. */
public final class TermsOfLandsTest {
    public static void main(String[] args) {
        places();
        farthestPlaces();
        apart();
        dayAndNight();
        hourAtItsBeginning();
        actHolds();
        actHoldsForOthers();
        lines();
        newestAct();
        sameHour();
        withoutAct();
        bits();
        inside();
        insideOfSeveral();
        calmAtFirst();
        windWays();
        tideTurns();
        tideBefore();
        tideAfterPasses();
        Check.end("TermsOfLandsTest");
    }

    /** "A place is east and north in tenths of miles, -999 to 999 each." */
    private static void places() {
        int[] least = {-999, -998, 0, 998, 999};
        for (int east : least) {
            for (int north : least) {
                GalleonWave x = new GalleonWave();
                x.addShip(east, north);
                x.addLand(east, north, 1);
                x.addTown(0, east, north, 5);
                Check.due("east", x.getPlace(0, true), east);
                Check.due("north", x.getPlace(0, false), north);
                Check.due("the land is there", x.getInside(0), 0);
                Check.due("the town is there", x.getSignal(0, 0), 200);
            }
        }
    }

    /** From one end of the places to the other, where a signal is as weak as can be, but not below 0. */
    private static void farthestPlaces() {
        GalleonWave x = new GalleonWave();
        x.addLand(-999, -999, 50);
        x.addTown(0, 999, 999, 999);
        x.addShip(-999, -999);
        x.setPower(0, 50);
        Check.due("from end to end", x.getSignal(0, 0), 0);
        x.addTown(0, -999, 999, 999);
        Check.due("along one side", x.getSignal(0, 1), 0);
        Check.due("aground there", x.isAground(0), true);
    }

    /** "Two places are as far apart as the greater of both differences." */
    private static void apart() {
        int[][] places = {{30, 0}, {0, 30}, {30, 30}, {-30, 30}, {30, -30}, {-30, -30}, {-30, 5}, {5, -30}};
        for (int[] place : places) {
            GalleonWave x = new GalleonWave();
            x.addLand(0, 0, 30);
            x.addTown(0, 0, 0, 5);
            x.addShip(place[0], place[1]);
            x.addShip(place[0] + Integer.signum(place[0]), place[1] + Integer.signum(place[1]));
            Check.due("inside as far as 30", x.getInside(0), 0);
            Check.due("aground as far as 30", x.isAground(0), true);
            Check.due("outside as far as 31", x.getInside(1), -1);
            Check.due("afloat as far as 31", x.isAground(1), false);
            x.setPower(0, 50);
            x.setPower(1, 50);
            Check.due("signal as far as 30", x.getSignal(0, 0), 100000 / 910);
            Check.due("signal as far as 31", x.getSignal(1, 0), 100000 / 971);
        }
    }

    /** "The hour is 0 at first; each day has 24, those from 6 to 17 are by day, the others by night." */
    private static void dayAndNight() {
        GalleonWave x = Scene.station();
        x.addTown(0, 0, 0, 5);
        int nights = 0;
        for (int hour = 0; hour < 72; hour++) {
            boolean isDay = hour % 24 >= 6 && hour % 24 <= 17;
            nights += isDay ? 0 : 1;
            Check.due("signal at hour " + hour, x.getSignal(0, 0), isDay ? 2000 : 4000);
            Check.due("hour", x.pass(1), hour + 1);
            Check.dueReal("share at hour " + hour, x.getNightShare(), (float) nights / (hour + 1));
        }
    }

    /** "In an hour, by what is so at its beginning, first generators run, .. then ships move." */
    private static void hourAtItsBeginning() {
        GalleonWave x = new GalleonWave();
        x.addLand(900, 900, 1);
        x.addLand(-36, 0, 1);
        x.addTown(0, 40, 0, 100);
        Scene.addStation(x, 0, 0, 3, 20);
        x.weigh(0);
        Scene.supply(x, 0, 0, 0, 5);
        x.setWind(12, 'w');
        x.sell(0, 20);
        x.pass(1);
        Check.due("it moved", x.getPlace(0, true), -6);
        Check.due("heard from where it was", x.getHeard(0), 0);
        Check.due("paid by those", x.getEarned(0), 10);
        Check.due("no offence where it was", x.getEvidence(1), 0);
        Check.due("inside only now", x.getInside(0), 1);
        Check.due("salt comes behind", x.getSalt(0), 1);
        x.pass(1);
        Check.due("an offence where it is", x.getEvidence(1), 1);
        Check.due("not heard from there", x.getHeard(0), -1);
        x.pass(4);
        Check.due("beside the shallows it moves", x.getPlace(0, true), -36);
        x.pass(1);
        Check.due("aground it does not", x.getPlace(0, true), -36);
    }

    /** "An act of a land holds from an hour on, now or later": not an hour ahead of that, and for ever after. */
    private static void actHolds() {
        GalleonWave x = Scene.sea();
        x.pass(5);
        x.addAct(0, 5, 41, 0);
        Check.due("now", x.getLine(0), 41);
        x.addAct(0, 30, 42, 0);
        x.addAct(0, 6, 43, 0);
        Check.due("now still", x.getLine(0), 41);
        x.pass(1);
        Check.due("an hour later", x.getLine(0), 43);
        x.pass(23);
        Check.due("at hour 29", x.getLine(0), 43);
        x.pass(1);
        Check.due("at hour 30", x.getLine(0), 42);
        x.pass(96);
        Check.due("for ever", x.getLine(0), 42);
        x.addAct(0, 99999, 44, 0);
        x.pass(96);
        Check.due("not yet", x.getLine(0), 42);
    }

    /** An act holds for the hour that begins with it: for an offence, a spot and a raid. */
    private static void actHoldsForOthers() {
        GalleonWave x = new GalleonWave();
        x.addLand(900, 900, 1);
        x.addTown(0, 0, 0, 100);
        Scene.addStation(x, 0, 0, 3, 20);
        x.sell(0, 20);
        x.addAct(0, 2, 30, 6);
        x.pass(2);
        Check.due("hours 0 and 1 are allowed", x.getEvidence(0), 0);
        Check.due("and paid", x.getEarned(0), 20);
        x.pass(1);
        Check.due("hour 2 is not", x.getEvidence(0), 1);
        Check.due("nor paid", x.getEarned(0), 20);
        x.addAct(0, 4, 30, 0);
        x.pass(1);
        Check.due("hour 3 is not", x.getEvidence(0), 2);
        x.pass(1);
        Check.due("hour 4 is", x.getEvidence(0), 2);
        Check.due("and paid", x.getEarned(0), 30);
    }

    /** "a line as far from the land as told, 0 to 300" */
    private static void lines() {
        int[] lines = {0, 1, 29, 30, 299, 300};
        for (int line : lines) {
            GalleonWave x = new GalleonWave();
            x.addLand(0, 0, 1);
            x.addAct(0, 0, line, 0);
            x.addShip(line, 0);
            x.addShip(0, -line - 1);
            Check.due("the line", x.getLine(0), line);
            Check.due("inside of " + line, x.getInside(0), 0);
            Check.due("outside of " + line, x.getInside(1), -1);
        }
    }

    /** "the newest one that holds counts": the one of the latest hour, in whatever order they are told. */
    private static void newestAct() {
        int[][] orders = {{1, 2, 3}, {1, 3, 2}, {2, 1, 3}, {2, 3, 1}, {3, 1, 2}, {3, 2, 1}};
        for (int[] order : orders) {
            GalleonWave x = Scene.sea();
            for (int hour : order) {
                x.addAct(0, hour, 100 + hour, 0);
            }
            Check.due("none holds", x.getLine(0), 30);
            for (int hour = 1; hour <= 4; hour++) {
                x.pass(1);
                Check.due("the line at hour " + hour, x.getLine(0), 100 + Math.min(hour, 3));
            }
        }
    }

    /** "of those from one hour the one told last" */
    private static void sameHour() {
        GalleonWave x = Scene.sea();
        x.addAct(0, 2, 51, 1);
        x.addAct(0, 2, 52, 2);
        x.addAct(0, 1, 53, 4);
        x.addAct(0, 2, 50, 0);
        x.addAct(0, 1, 54, 0);
        x.pass(1);
        Check.due("of hour 1", x.getLine(0), 54);
        x.pass(1);
        Check.due("of hour 2", x.getLine(0), 50);
        x.addAct(0, 2, 55, 0);
        Check.due("told now", x.getLine(0), 55);
    }

    /** "Without an act the line is as far as 30, and nothing is forbidden." */
    private static void withoutAct() {
        GalleonWave x = new GalleonWave();
        x.addLand(900, 900, 1);
        x.addTown(0, 0, 0, 100);
        Scene.addStation(x, 0, 0, 3, 20);
        x.sell(0, 1);
        x.addShip(869, 900);
        x.addShip(870, 900);
        x.addAct(0, 5, 300, 7);
        Check.due("31 away", x.getInside(1), -1);
        Check.due("30 away", x.getInside(2), 0);
        x.pass(1);
        Check.due("no offence by supply nor by speech", x.getEvidence(0), 0);
        Check.due("advertising is allowed", x.getEarned(0), 10);
        x.pass(4);
        Check.due("31 away from hour 5 on", x.getInside(1), 0);
    }

    /** "what is forbidden then, as bits: 1 to supply from it, 2 that its people speak on the air, 4 to advertise .." */
    private static void bits() {
        for (int bits = 0; bits <= 7; bits++) {
            GalleonWave x = new GalleonWave();
            x.addLand(900, 900, 1);
            x.addTown(0, 0, 0, 100);
            Scene.addStation(x, 0, 0, 3, 20);
            x.sell(0, 1);
            x.addAct(0, 0, 30, bits);
            x.send(0, 0, false);
            Check.due("supply with " + bits, x.getEvidence(0), bits & 1);
            x.pass(1);
            Check.due("speech with " + bits, x.getEvidence(0), (bits & 1) + (bits >> 1 & 1));
            Check.due("spots with " + bits, x.getEarned(0), bits < 4 ? 10 : 0);
        }
    }

    /** "A place is inside a land if it is not farther from it than its line by now" */
    private static void inside() {
        GalleonWave x = new GalleonWave();
        x.addLand(100, -100, 1);
        x.addShip(100, -60);
        x.addAct(0, 1, 39, 0);
        x.addAct(0, 2, 40, 0);
        x.addAct(0, 3, 41, 0);
        int[] inside = {-1, -1, 0, 0};
        for (int hour = 0; hour < 4; hour++) {
            Check.due("inside at hour " + hour, x.getInside(0), inside[hour]);
            x.pass(1);
        }
    }

    /** "where a ship is inside of one, of several the lowest number, all three are forbidden to it by that land" */
    private static void insideOfSeveral() {
        for (int line = 0; line < 8; line++) {
            GalleonWave x = new GalleonWave();
            x.addLand(900, 900, 1);
            for (int land = 1; land < 4; land++) {
                x.addLand(50, 0, 1);
                x.addAct(land, 0, (line >> land - 1) % 2 == 1 ? 50 : 49, 0);
                x.addTown(land, 0, 0, 100);
            }
            int lowest = line == 0 ? -1 : 1 + Integer.numberOfTrailingZeros(line);
            Scene.addStation(x, 0, 0, 3, 20);
            Check.due("inside with " + line, x.getInside(0), lowest);
            x.sell(0, 1);
            x.pass(1);
            for (int land = 1; land < 4; land++) {
                Check.due("two tenders and speech, " + line, x.getEvidence(land), land == lowest ? 3 : 0);
            }
            Check.due("the own", x.getEvidence(0), 0);
            Check.due("who pays with " + line, x.getEarned(0), lowest < 0 ? 30 : 20);
        }
    }

    /** "Creates a sea without lands and ships, at the hour 0, in a calm toward the north." */
    private static void calmAtFirst() {
        GalleonWave x = new GalleonWave();
        x.addShip(0, 0);
        Check.due("the first hour", x.pass(1), 1);
        Check.due("no drift to the north", x.getPlace(0, false), 0);
        Check.due("nor to the east", x.getPlace(0, true), 0);
        Check.due("no wind before", x.setWind(1, 'n'), 0);
        Check.due("no tide before", x.setTide(1, 1), 0);
        x.pass(1);
        Check.due("a wind of 1 is rounded down", x.getPlace(0, false), 1);
    }

    /** "There is a wind, from 0 to 12, toward 'n', 'e', 's' or 'w'" */
    private static void windWays() {
        String ways = "nesw";
        int[] east = {0, 1, 0, -1};
        int[] north = {1, 0, -1, 0};
        for (int way = 0; way < 4; way++) {
            for (int wind = 0; wind <= 12; wind++) {
                GalleonWave x = new GalleonWave();
                x.addShip(7, -9);
                x.addShip(70, -90);
                x.anchor(1, 'r');
                x.setWind(wind, ways.charAt(way));
                x.pass(1);
                int drift = wind / 2;
                int drag = Math.max(0, wind - 4);
                Check.due("drifts east", x.getPlace(0, true), 7 + drift * east[way]);
                Check.due("drifts north", x.getPlace(0, false), -9 + drift * north[way]);
                Check.due("drags east", x.getPlace(1, true), 70 + drag * east[way]);
                Check.due("drags north", x.getPlace(1, false), -90 + drag * north[way]);
            }
        }
    }

    /** "a tide .. which goes the other way in each second six hours of the day, the hours 6 to 11 and 18 to 23" */
    private static void tideTurns() {
        GalleonWave x = new GalleonWave();
        x.addShip(0, 0);
        x.setTide(3, -2);
        int east = 0;
        int north = 0;
        for (int hour = 0; hour < 60; hour++) {
            int ofDay = hour % 24;
            boolean isBack = ofDay >= 6 && ofDay <= 11 || ofDay >= 18 && ofDay <= 23;
            east += isBack ? -3 : 3;
            north += isBack ? 2 : -2;
            x.pass(1);
            Check.due("east behind hour " + hour, x.getPlace(0, true), east);
            Check.due("north behind hour " + hour, x.getPlace(0, false), north);
        }
    }

    /** "Returns the one to the east before.": as it was told, in whatever hour. */
    private static void tideBefore() {
        GalleonWave x = new GalleonWave();
        Check.due("none at first", x.setTide(3, -1), 0);
        Check.due("3 before", x.setTide(-3, 2), 3);
        x.pass(7);
        Check.due("-3 before, though it goes the other way", x.setTide(-2, 0), -3);
        Check.dueArgument("too far to the east", () -> x.setTide(4, 0));
        Check.dueArgument("too far to the south", () -> x.setTide(0, -4));
        Check.due("-2 before", x.setTide(0, 1), -2);
        Check.due("0 before", x.setTide(1, 2), 0);
    }

    private static void tideAfterPasses() {
        for (int tide = -3; tide <= 3; tide++) {
            GalleonWave x = new GalleonWave();
            x.addShip(0, 0);
            x.setTide(tide, 1);
            x.pass(5);
            Check.due("east behind 5 hours", x.getPlace(0, true), 5 * tide);
            x.pass(7);
            Check.due("east behind 12 hours", x.getPlace(0, true), 0);
            Check.due("north behind 12 hours", x.getPlace(0, false), 0);
            x.pass(96);
            Check.due("east behind some days", x.getPlace(0, true), 0);
        }
    }
}
