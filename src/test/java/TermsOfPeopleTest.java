import java.util.NoSuchElementException;

/** Sentences of the Terms about people, tenders and programmes: each on both sides of its boundary. */
public final class TermsOfPeopleTest {
    public static void main(String[] args) {
        twelvePeople();
        eats();
        mutinyAfterHours();
        oneBehindTheOther();
        mutinyByTooLittle();
        somebodyInAllOfThem();
        nobodyBetween();
        mutinyOfAShip();
        mutinyUntilTender();
        tiredFrom();
        tiredSinceLast();
        tiredOnTheHour();
        tenderGoesUpTo();
        tenderBrings();
        tenderCosts();
        tenderCrystal();
        tenderTakesBack();
        tenderBookedAtOnce();
        supplyOffences();
        plannedTapes();
        plannedHours();
        plannedPerson();
        standIn();
        standInNotPlanned();
        lastTape();
        tone();
        speechOffences();
        Check.end("TermsOfPeopleTest");
    }

    /** "At most 12 are numbered from 0, .. ashore at first" */
    private static void twelvePeople() {
        GalleonWave x = Scene.sea();
        x.addShip(0, 0);
        for (int i = 0; i < 12; i++) {
            Check.due("number", x.addPerson(0, i % 2 == 0 ? 'd' : 'e'), i);
            Check.due("ashore", x.getAboard(i), -1);
            Check.due("going", x.book(0, i, true), i + 1);
        }
        Check.dueState("a thirteenth", () -> x.addPerson(0, 'd'));
        x.send(0, 0, false);
        for (int i = 0; i < 12; i++) {
            Check.due("aboard", x.getAboard(i), 0);
        }
        Check.dueReal("all of them", x.getMeanCrew(), 12);
    }

    /** "An hour aboard each takes 1 of food, or all that is left" */
    private static void eats() {
        for (int crew = 0; crew <= 12; crew++) {
            for (int food = 0; food <= 13; food++) {
                GalleonWave x = hungry(crew, food);
                x.pass(1);
                Check.due("food for " + crew + " of " + food, x.getFood(0), Math.max(0, food - crew));
            }
        }
    }

    /** A ship with so many engineers aboard and so much food. */
    private static GalleonWave hungry(int crew, int food) {
        GalleonWave x = Scene.sea();
        x.addShip(0, 0);
        for (int i = 0; i < crew; i++) {
            x.addPerson(0, 'e');
            x.book(0, i, true);
        }
        Scene.supply(x, 0, 0, food, -1);
        return x;
    }

    /** "if that is too little for 24 hours of a ship, .. all aboard mutiny" */
    private static void mutinyAfterHours() {
        int[] foods = {0, 1, 2, 23, 24, 25, 100};
        for (int food : foods) {
            GalleonWave x = hungry(1, food);
            Scene.passLong(x, food + 23);
            Check.due("23 hours without, after " + food, x.isMutiny(0), false);
            x.pass(1);
            Check.due("24 hours without, after " + food, x.isMutiny(0), true);
        }
        GalleonWave all = hungry(1, 0);
        all.pass(24);
        Check.due("24 hours in one", all.isMutiny(0), true);
    }

    /** "one behind the other": an hour with enough food begins them anew, at whatever place among them. */
    private static void oneBehindTheOther() {
        for (int before = 1; before <= 23; before += 11) {
            GalleonWave x = hungry(1, 0);
            x.pass(before);
            Scene.supply(x, 0, 0, 1, -1);
            x.pass(1);
            Check.due("it was enough for an hour", x.getFood(0), 0);
            x.pass(23);
            Check.due(before + " and 23", x.isMutiny(0), false);
            x.pass(1);
            Check.due(before + " and 24", x.isMutiny(0), true);
        }
    }

    /** Food for all but one is too little, though it is taken; as much as there are people is not. */
    private static void mutinyByTooLittle() {
        for (int food = 1; food <= 4; food++) {
            GalleonWave x = hungry(3, 0);
            x.pass(23);
            Scene.supply(x, 0, 0, food, -1);
            x.pass(1);
            Check.due("food of " + food + " for 3", x.isMutiny(0), food < 3);
            Check.due("what is left of " + food, x.getFood(0), Math.max(0, food - 3));
        }
    }

    /** "in all of which somebody is aboard": hours without anybody do not count, whatever the food. */
    private static void somebodyInAllOfThem() {
        GalleonWave x = Scene.sea();
        x.addShip(0, 0);
        x.addPerson(0, 'e');
        x.pass(40);
        Check.due("nobody", x.isMutiny(0), false);
        Scene.board(x, 0, 0);
        x.pass(23);
        Check.due("somebody for 23 hours", x.isMutiny(0), false);
        x.pass(1);
        Check.due("somebody for 24 hours", x.isMutiny(0), true);
    }

    /** Hours with people, an hour with nobody, hours with people again: they are not behind one another. */
    private static void nobodyBetween() {
        for (int between = 0; between <= 1; between++) {
            GalleonWave x = Scene.sea();
            x.addShip(0, 0);
            x.addPerson(0, 'e');
            x.addPerson(0, 'e');
            Scene.board(x, 0, 0);
            Scene.supply(x, 0, 0, 316, -1);
            Scene.passLong(x, 336);
            x.send(0, 0, true);
            Check.due("ashore", x.getAboard(0), -1);
            if (between == 1) {
                x.pass(1);
            }
            Scene.board(x, 0, 1);
            x.pass(3);
            Check.due("20 and 3", x.isMutiny(0), false);
            x.pass(1);
            Check.due("20 and 4, with so many between: " + between, x.isMutiny(0), between == 0);
        }
    }

    private static void mutinyOfAShip() {
        GalleonWave x = Scene.sea();
        Scene.addStation(x, 0, 0, 3, 5);
        Scene.addStation(x, 300, 0, 4, 5);
        Scene.passLong(x, 999);
        Scene.supply(x, 0, 9999, 0, -1);
        Scene.supply(x, 1, 9999, 5, -1);
        x.pass(23);
        Check.due("neither yet", x.isMutiny(0) || x.isMutiny(1), false);
        x.pass(1);
        Check.due("the one", x.isMutiny(0), true);
        Check.due("not the other", x.isMutiny(1), false);
        x.pass(4);
        Check.due("the other not yet", x.isMutiny(1), false);
        Check.due("and on the air", x.isOnAir(1), true);
        Check.due("the one is not on the air", x.isOnAir(0), false);
        x.pass(1);
        Check.due("the other too", x.isMutiny(1), true);
        Check.due("and on the air in that hour", x.isOnAir(1), true);
    }

    /** "they send no more until a tender comes, and the ship is not on the air" */
    private static void mutinyUntilTender() {
        GalleonWave x = Scene.sea();
        Scene.addStation(x, 0, 0, 3, 5);
        x.addTown(0, 0, 0, 50);
        Scene.passLong(x, 999);
        Scene.supply(x, 0, 9999, 0, -1);
        x.pass(24);
        int kept = x.getKept();
        Check.due("mutiny", x.isMutiny(0), true);
        x.pass(96);
        Check.due("mutiny still", x.isMutiny(0), true);
        Check.due("nothing is kept", x.getKept(), kept);
        Check.due("nothing is heard", x.getHeard(0), -1);
        Check.dueThrow("nobody speaks", NoSuchElementException.class, () -> x.getSpeaker(0));
        x.setWind(8, 'n');
        x.load(0, 0, 5, -1);
        Check.dueUnsupported("no tender comes", () -> x.send(0, 0, false));
        Check.due("mutiny without a tender", x.isMutiny(0), true);
        x.setWind(7, 'n');
        x.send(0, 0, false);
        Check.due("a tender", x.isMutiny(0), false);
        x.pass(1);
        Check.due("on the air", x.isOnAir(0), true);
        Check.due("heard", x.getHeard(0), 0);
        x.pass(4);
        x.pass(23);
        Check.due("fed for 5 hours, and 23", x.isMutiny(0), false);
        x.pass(1);
        Check.due("fed for 5 hours, and 24", x.isMutiny(0), true);
    }

    /** "Who is aboard for 336 hours and more, .. is tired from the next hour on, and does not speak." */
    private static void tiredFrom() {
        GalleonWave x = Scene.sea();
        Scene.addStation(x, 0, 0, 3, 5);
        Scene.supply(x, 0, 9999, 0, -1);
        Scene.passLong(x, 334);
        for (int hour = 335; hour <= 338; hour++) {
            x.pass(1);
            Check.due("tired behind " + hour, x.isTired(0), hour >= 336);
            Check.due("who spoke in the hour " + hour, x.getSpeaker(0), hour <= 336 ? 0 : 200);
        }
        x.plan(0, 338 % 24, 0);
        x.pass(1);
        Check.due("planned, and does not speak", x.getSpeaker(0), 200);
    }

    /** "since coming aboard last": on another ship, or the same one, they are counted anew. */
    private static void tiredSinceLast() {
        for (int ship = 0; ship <= 1; ship++) {
            GalleonWave x = Scene.sea();
            x.addShip(0, 0);
            x.addShip(300, 0);
            x.addPerson(0, 'd');
            Scene.board(x, 0, 0);
            Scene.passLong(x, 400);
            Check.due("tired", x.isTired(0), true);
            x.send(0, 0, true);
            Check.due("not ashore", x.isTired(0), false);
            x.pass(50);
            Check.due("not after long ashore", x.isTired(0), false);
            Scene.board(x, ship, 0);
            Check.due("not aboard", x.isTired(0), false);
            Scene.passLong(x, 335);
            Check.due("not behind 335 hours", x.isTired(0), false);
            x.pass(1);
            Check.due("behind 336 hours", x.isTired(0), true);
        }
    }

    /** Tired or not is looked at by the hour: with a tender that comes one hour ahead, none go back. */
    private static void tiredOnTheHour() {
        GalleonWave x = Scene.sea();
        x.addShip(0, 0);
        x.addPerson(0, 'e');
        Scene.board(x, 0, 0);
        Scene.passLong(x, 335);
        x.send(0, 0, true);
        Check.due("behind 335 hours", x.getAboard(0), 0);
        x.pass(1);
        x.send(0, 0, false);
        Check.due("behind 336 hours, but not back", x.getAboard(0), 0);
        Check.due("tired still", x.isTired(0), true);
        x.send(0, 0, true);
        Check.due("back", x.getAboard(0), -1);
    }

    /** "A tender goes at once from a land to a ship, if the wind is 7 or less" */
    private static void tenderGoesUpTo() {
        for (int wind = 0; wind <= 12; wind++) {
            GalleonWave x = Scene.sea();
            x.addShip(0, 0);
            x.setWind(wind, 'e');
            x.load(0, 5, 5, 5);
            if (wind <= 7) {
                Check.due("in a wind of " + wind, x.send(0, 0, false), -60);
            } else {
                Check.dueUnsupported("in a wind of " + wind, () -> x.send(0, 0, false));
            }
            Check.due("fuel in a wind of " + wind, x.getFuel(0), wind <= 7 ? 5 : 0);
            Check.due("channel in a wind of " + wind, x.getChannel(0), wind <= 7 ? 5 : -1);
            Check.due("no hour passes", x.pass(1), 1);
        }
    }

    /** "with all the fuel and food that was loaded since the last one" */
    private static void tenderBrings() {
        GalleonWave x = Scene.sea();
        x.addShip(0, 0);
        x.addShip(300, 0);
        x.load(0, 9999, 999, -1);
        x.load(0, 9999, 999, -1);
        x.load(0, 1, 2, -1);
        x.send(0, 1, false);
        Check.due("fuel of three loads", x.getFuel(1), 19999);
        Check.due("food of three loads", x.getFood(1), 2000);
        Check.due("none for the other one", x.getFuel(0), 0);
        x.send(0, 1, false);
        Check.due("an empty one brings no fuel", x.getFuel(1), 19999);
        Check.due("nor food", x.getFood(1), 2000);
        x.load(0, 3, 0, -1);
        x.send(0, 1, false);
        Check.due("what was loaded since", x.getFuel(1), 20002);
    }

    /** "It costs 50 and 1 for each litre of fuel and each unit of food." */
    private static void tenderCosts() {
        GalleonWave x = Scene.sea();
        x.addShip(0, 0);
        Check.due("empty", x.send(0, 0, false), -50);
        Check.due("1 of fuel", x.load(0, 1, 0, -1), 51);
        Check.due("and 1 of food", x.load(0, 0, 1, -1), 52);
        Check.due("a crystal costs nothing", x.load(0, 0, 0, 4), 52);
        x.addPerson(0, 'd');
        x.book(0, 0, true);
        Check.due("nor a person", x.send(0, 0, true), -102);
        Check.due("the most of one load", x.load(0, 9999, 999, -1), 11048);
        Check.due("sent", x.send(0, 0, false), -11150);
        Check.due("the money", x.getMoney(), -11150);
    }

    /** "and the crystal loaded last, if one was, in place of that of the ship" */
    private static void tenderCrystal() {
        GalleonWave x = Scene.sea();
        x.addLand(-900, 900, 1);
        x.addShip(0, 0);
        x.load(0, 0, 0, -1);
        x.send(0, 0, false);
        Check.due("none was", x.getChannel(0), -1);
        x.load(0, 0, 0, 9);
        x.load(0, 0, 0, 0);
        x.send(0, 0, false);
        Check.due("the one loaded last", x.getChannel(0), 0);
        x.load(0, 0, 0, 6);
        x.load(0, 1, 1, -1);
        x.load(1, 0, 0, 7);
        x.send(0, 0, false);
        Check.due("-1 is none", x.getChannel(0), 6);
        x.send(0, 0, false);
        Check.due("only once", x.getChannel(0), 6);
        x.send(1, 0, false);
        Check.due("of the other land", x.getChannel(0), 7);
        x.send(0, 0, false);
        Check.due("one that went does not come again", x.getChannel(0), 7);
    }

    /** "and takes those back who were tired ahead of that": of that ship, and only if it is told. */
    private static void tenderTakesBack() {
        GalleonWave x = Scene.sea();
        x.addLand(-900, 900, 1);
        x.addShip(0, 0);
        x.addShip(300, 0);
        for (int i = 0; i < 5; i++) {
            x.addPerson(i % 2, i % 2 == 0 ? 'd' : 'e');
        }
        x.book(0, 0, true);
        x.book(0, 1, true);
        x.send(0, 0, false);
        Scene.board(x, 1, 2);
        x.pass(1);
        Scene.board(x, 0, 3);
        Scene.passLong(x, 335);
        x.book(1, 4, true);
        x.send(1, 0, true);
        int[] aboard = {-1, -1, 1, 0, 0};
        for (int i = 0; i < 5; i++) {
            Check.due("aboard: " + i, x.getAboard(i), aboard[i]);
        }
        Check.due("who is back can be booked", x.book(1, 0, true), 1);
        x.send(1, 1, true);
        Check.due("back from the other one", x.getAboard(2), -1);
        Check.due("and aboard of it", x.getAboard(0), 1);
        Check.due("not tired any more", x.isTired(0), false);
    }

    /** Those booked go with the next tender, and not with the one after that. */
    private static void tenderBookedAtOnce() {
        GalleonWave x = Scene.sea();
        x.addShip(0, 0);
        x.addPerson(0, 'd');
        x.addPerson(0, 'd');
        x.book(0, 0, true);
        x.book(0, 1, true);
        Check.due("one is taken off", x.book(0, 0, false), 1);
        x.send(0, 0, false);
        Check.due("it stays", x.getAboard(0), -1);
        Check.due("the other one goes", x.getAboard(1), 0);
        Check.due("none are booked then", x.book(0, 0, false), 0);
        Scene.passLong(x, 336);
        x.send(0, 0, true);
        Check.due("back", x.getAboard(1), -1);
        x.send(0, 0, false);
        Check.due("not booked again", x.getAboard(1), -1);
    }

    /** "If the land forbids to supply by now, it is an offence of it; if the ship is inside a land, of that one; only one .." */
    private static void supplyOffences() {
        for (int bits = 0; bits < 8; bits++) {
            boolean isForbidden = bits % 2 == 1;
            boolean isInside = bits / 2 % 2 == 1;
            boolean isOther = bits / 4 == 1;
            GalleonWave x = new GalleonWave();
            x.addLand(0, 0, 1);
            x.addLand(900, 900, 1);
            x.addShip(isInside ? 50 : 51, 0);
            x.addAct(0, 0, 50, isOther ? 7 : isForbidden ? 7 : 6);
            x.addAct(1, 0, 50, isForbidden ? 1 : 6);
            x.send(isOther ? 1 : 0, 0, false);
            Check.due("of the one inside, " + bits, x.getEvidence(0),
                    isInside || !isOther && isForbidden ? 1 : 0);
            Check.due("of the one that supplies, " + bits, x.getEvidence(1), isOther && isForbidden ? 1 : 0);
        }
    }

    /** "a tape, 100 to 199, or nothing at first" */
    private static void plannedTapes() {
        for (int tape = 100; tape <= 199; tape++) {
            GalleonWave x = Scene.station();
            Check.due("nothing at first", x.plan(0, 0, tape), -1);
            x.pass(1);
            Check.due("it runs", x.getSpeaker(0), tape);
            Check.due("it was planned", x.plan(0, 0, -1), tape);
            Check.due("nothing is", x.plan(0, 0, -1), -1);
        }
    }

    /** "A ship has a plan for each hour of the day": hour 0 comes behind hour 23, on every day. */
    private static void plannedHours() {
        GalleonWave x = Scene.station();
        for (int hour = 0; hour < 24; hour++) {
            x.plan(0, hour, 100 + hour);
        }
        for (int hour = 0; hour < 50; hour++) {
            x.pass(1);
            Check.due("tape of hour " + hour, x.getSpeaker(0), 100 + hour % 24);
        }
    }

    /** "there speaks the one who is planned, if that one is a 'd' aboard and not tired" */
    private static void plannedPerson() {
        GalleonWave x = Scene.station();
        x.addShip(300, 0);
        x.addPerson(0, 'd');
        x.addPerson(0, 'e');
        x.addPerson(0, 'd');
        x.addPerson(0, 'd');
        Scene.board(x, 0, 1);
        Scene.board(x, 0, 2);
        Scene.board(x, 1, 3);
        int[] planned = {0, 1, 2, 3, 4};
        int[] spoke = {0, 1, 200, 200, 200};
        for (int hour = 0; hour < 5; hour++) {
            x.plan(0, hour, planned[hour]);
            x.plan(0, 23, 0);
            x.plan(0, 22, 1);
            x.pass(1);
            Check.due("planned: " + planned[hour], x.getSpeaker(0), spoke[hour]);
        }
    }

    /** "otherwise there speaks the lowest number of such who is not planned in another hour of the plan" */
    private static void standIn() {
        GalleonWave x = Scene.sea();
        x.addPerson(0, 'e');
        x.addPerson(0, 'd');
        Scene.addStation(x, 0, 0, 3, 20);
        x.addPerson(0, 'd');
        Scene.board(x, 0, 0);
        Scene.board(x, 0, 3);
        x.pass(1);
        Check.due("not an engineer, nor one ashore", x.getSpeaker(0), 2);
        Scene.board(x, 0, 1);
        x.pass(1);
        Check.due("the lowest number", x.getSpeaker(0), 1);
        x.plan(0, 20, 1);
        x.pass(1);
        Check.due("not planned in another hour", x.getSpeaker(0), 2);
        x.plan(0, 21, 2);
        x.pass(1);
        Check.due("nor the second", x.getSpeaker(0), 3);
        x.plan(0, 22, 3);
        x.pass(1);
        Check.due("none is left", x.getSpeaker(0), 200);
        x.plan(0, 20, -1);
        x.pass(1);
        Check.due("not planned any more", x.getSpeaker(0), 1);
    }

    /** Each other hour counts, the first and the last of the day too; the hour itself does not. */
    private static void standInNotPlanned() {
        for (int hour = 0; hour < 24; hour++) {
            GalleonWave x = Scene.station();
            x.pass(5);
            x.plan(0, hour, 0);
            x.pass(1);
            Check.due("planned in hour " + hour, x.getSpeaker(0), hour == 5 ? 0 : 200);
        }
    }

    /** "otherwise the tape that was planned last, whether it still is or not" */
    private static void lastTape() {
        GalleonWave x = Scene.station();
        x.plan(0, 23, 0);
        x.plan(0, 9, 105);
        x.plan(0, 8, 107);
        x.plan(0, 7, 0);
        x.plan(0, 6, -1);
        x.pass(1);
        Check.due("the last of two", x.getSpeaker(0), 107);
        x.plan(0, 8, -1);
        x.pass(1);
        Check.due("whether it still is", x.getSpeaker(0), 107);
        x.plan(0, 9, 0);
        x.pass(1);
        Check.due("neither is", x.getSpeaker(0), 107);
        Check.dueArgument("a plan that is refused", () -> x.plan(0, 24, 111));
        Check.dueArgument("a tape that is refused", () -> x.plan(0, 1, 200));
        x.pass(1);
        Check.due("none of these", x.getSpeaker(0), 107);
        x.plan(0, 9, 105);
        x.pass(1);
        Check.due("planned last again", x.getSpeaker(0), 105);
    }

    /** "otherwise there is a tone, 200" */
    private static void tone() {
        GalleonWave x = Scene.station();
        x.plan(0, 23, 0);
        x.addShip(300, 0);
        x.plan(1, 3, 150);
        x.pass(1);
        Check.due("no tape was planned for this ship", x.getSpeaker(0), 200);
        x.addRecording(-1, -1, 200);
        Check.due("it is kept", x.getChoices(0), 1);
    }

    /** "One who speaks makes an offence of the own land, if that forbids it by now, and of the land inside which .." */
    private static void speechOffences() {
        for (int bits = 0; bits < 16; bits++) {
            boolean isForbidden = bits % 2 == 1;
            boolean isInside = bits / 2 % 2 == 1;
            boolean isOwn = bits / 4 % 2 == 1;
            boolean isTape = bits / 8 == 1;
            GalleonWave x = new GalleonWave();
            x.addLand(900, 900, 1);
            x.addLand(isInside ? 30 : 31, 0, 1);
            x.addPerson(isOwn ? 1 : 0, 'd');
            Scene.addStation(x, 0, 0, 3, 20);
            Scene.board(x, 0, 0);
            x.addAct(0, 0, 30, isForbidden ? 2 : 5);
            x.addAct(1, 0, 30, isForbidden ? 2 : 5);
            x.plan(0, 0, isTape ? 100 : 0);
            int around = x.getEvidence(1);
            x.pass(1);
            Check.due("spoke", x.getSpeaker(0), isTape ? 100 : 0);
            int ofAround = !isTape && (isInside || isOwn && isForbidden) ? 1 : 0;
            Check.due("of the land around, " + bits, x.getEvidence(1) - around, ofAround);
            Check.due("of land 0, " + bits, x.getEvidence(0), !isTape && !isOwn && isForbidden ? 1 : 0);
        }
    }
}
