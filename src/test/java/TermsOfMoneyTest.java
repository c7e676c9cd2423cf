/** Sentences of the Terms about spots, offences, raids and boardings: each on both sides of its boundary. */
public final class TermsOfMoneyTest {
    public static void main(String[] args) {
        twentyADay();
        dayBegins();
        leftOverDays();
        priceForTens();
        priceOfAllTowns();
        asLongAsSomeAreLeft();
        onlyOnTheAir();
        forbiddenTowns();
        townsOfTheLandInside();
        bankedOrNot();
        evidenceOfThree();
        insideItsLine();
        whatIsGone();
        withinTen();
        morePeople();
        inPlaceOfItsOwn();
        boardedOffTheAir();
        Check.end("TermsOfMoneyTest");
    }

    /** "at most 20 a day": in one sale, in two, and in twenty. */
    private static void twentyADay() {
        GalleonWave one = Scene.station();
        Check.due("20 at once", one.sell(0, 20), 20);
        Check.dueUnsupported("and 1", () -> one.sell(0, 1));
        GalleonWave two = Scene.station();
        Check.due("19", two.sell(0, 19), 19);
        Check.dueUnsupported("and 2", () -> two.sell(0, 2));
        Check.due("and 1", two.sell(0, 1), 20);
        Check.dueUnsupported("and 1 more", () -> two.sell(0, 1));
        GalleonWave twenty = Scene.station();
        for (int i = 1; i <= 20; i++) {
            Check.due("number " + i, twenty.sell(0, 1), i);
        }
        Check.dueUnsupported("number 21", () -> twenty.sell(0, 1));
        Check.dueUnsupported("20 more", () -> twenty.sell(0, 20));
        GalleonWave played = Scene.station();
        played.sell(0, 20);
        played.pass(10);
        Check.dueUnsupported("those played count too", () -> played.sell(0, 1));
    }

    /** The day of 24 hours: the hour 23 is of the day before, the hour 24 of the next. */
    private static void dayBegins() {
        for (int day = 0; day < 4; day++) {
            GalleonWave x = Scene.sea();
            x.addShip(0, 0);
            for (int i = 0; i < day; i++) {
                x.pass(24);
            }
            x.sell(0, 11);
            x.pass(23);
            Check.dueUnsupported("10 more in the last hour of day " + day, () -> x.sell(0, 10));
            Check.due("9 more", x.sell(0, 9), 20);
            Check.dueUnsupported("1 more", () -> x.sell(0, 1));
            x.pass(1);
            Check.due("in the first hour of the next", x.sell(0, 20), 40);
            Check.dueUnsupported("21 of that", () -> x.sell(0, 1));
        }
    }

    /** Spots that were not played stay for other days, each day 20 more can be sold. */
    private static void leftOverDays() {
        GalleonWave x = Scene.sea();
        x.addShip(0, 0);
        for (int day = 1; day <= 5; day++) {
            Check.due("left on day " + day, x.sell(0, 20), 20 * day);
            x.pass(24);
        }
        x.pass(48);
        Check.due("after two days without", x.sell(0, 20), 120);
    }

    /** "a price of 1 for each 10 thousands who listen to it, .. rounded down" */
    private static void priceForTens() {
        int[] thousands = {1, 9, 10, 11, 19, 20, 21, 99, 100, 989, 990, 999};
        for (int many : thousands) {
            GalleonWave x = Scene.station();
            x.addTown(0, 0, 0, many);
            x.sell(0, 2);
            x.pass(1);
            Check.due("of " + many, x.getEarned(0), many / 10);
            x.pass(1);
            Check.due("twice of " + many, x.getEarned(0), 2 * (many / 10));
        }
    }

    /** "of all towns together": the sum is rounded, not each town; one that hears another ship is none of them. */
    private static void priceOfAllTowns() {
        GalleonWave x = Scene.sea();
        for (int i = 0; i < 5; i++) {
            x.addTown(0, 0, 0, 9);
        }
        x.addTown(0, 300, 0, 999);
        Scene.addStation(x, 0, 0, 3, 20);
        Scene.addStation(x, 300, 0, 3, 20);
        x.sell(0, 1);
        x.pass(1);
        Check.due("5 times 9", x.getEarned(0), 4);
        Check.due("none without a spot", x.getEarned(1), 0);
    }

    /** "each hour a spot is played, as long as some are left" */
    private static void asLongAsSomeAreLeft() {
        for (int many = 1; many <= 20; many++) {
            GalleonWave x = Scene.station();
            x.addTown(0, 0, 0, 10);
            x.sell(0, many);
            x.pass(many - 1 == 0 ? 1 : many - 1);
            Check.due("hours less 1", x.getEarned(0), many == 1 ? 1 : many - 1);
            x.pass(1);
            Check.due("hours", x.getEarned(0), many);
            x.pass(1);
            Check.due("none left", x.getEarned(0), many);
        }
    }

    private static void onlyOnTheAir() {
        GalleonWave x = Scene.station();
        x.addTown(0, 0, 0, 10);
        x.setPower(0, 0);
        x.sell(0, 3);
        x.pass(5);
        Check.due("none earned off the air", x.getEarned(0), 0);
        Check.due("none played", x.sell(0, 1), 4);
        x.setPower(0, 20);
        x.pass(3);
        Check.due("three played", x.getEarned(0), 3);
        Check.due("one left, and one", x.sell(0, 1), 2);
    }

    /** "A town whose land forbids to advertise by now .. is not counted for that." */
    private static void forbiddenTowns() {
        for (int bits = 0; bits < 8; bits++) {
            GalleonWave x = new GalleonWave();
            x.addLand(900, 900, 1);
            for (int land = 1; land < 4; land++) {
                x.addLand(900, 100 * land, 1);
                x.addTown(land, 0, 0, 100);
                x.addAct(land, 1, 30, (bits >> land - 1) % 2 == 1 ? 4 : 3);
            }
            Scene.addStation(x, 0, 0, 3, 20);
            x.sell(0, 20);
            x.pass(1);
            Check.due("not yet", x.getEarned(0), 30);
            x.pass(1);
            Check.due("forbidden by " + bits, x.getEarned(0), 60 - 10 * Integer.bitCount(bits));
            Check.due("they listen", x.getListeners(0), 300);
        }
    }

    /** "or is that inside which the ship is": of several the lowest, and only as long as it is inside. */
    private static void townsOfTheLandInside() {
        for (int far = 29; far <= 32; far++) {
            GalleonWave x = new GalleonWave();
            x.addLand(900, 900, 1);
            x.addLand(far, 0, 1);
            x.addLand(0, 30, 1);
            x.addTown(0, 0, 0, 100);
            x.addTown(1, 0, 0, 200);
            x.addTown(2, 0, 0, 400);
            Scene.addStation(x, 0, 0, 3, 20);
            x.sell(0, 1);
            x.pass(1);
            Check.due("as far as " + far, x.getEarned(0), far <= 30 ? 50 : 30);
            Check.due("all listen", x.getListeners(0), 700);
        }
    }

    private static void bankedOrNot() {
        GalleonWave x = Scene.station();
        x.addTown(0, 0, 0, 50);
        int money = x.getMoney();
        x.sell(0, 3);
        x.pass(1);
        Check.due("banked", x.bank(0), money + 5);
        x.pass(1);
        Check.due("earned since", x.getEarned(0), 5);
        Check.due("money as it was", x.getMoney(), money + 5);
        Check.due("banked too", x.bank(0), money + 10);
        Check.due("nothing to bank", x.bank(0), money + 10);
    }

    /** A ship just inside of a land, and as many offences as told. */
    private static GalleonWave evidence(int many) {
        GalleonWave x = new GalleonWave();
        x.addLand(0, 0, 1);
        x.addLand(900, 900, 1);
        x.addShip(30, 0);
        for (int i = 0; i < many; i++) {
            x.send(1, 0, false);
        }
        return x;
    }

    /** "Each offence adds 1 to the evidence of the land. With 3 or more a land can raid" */
    private static void evidenceOfThree() {
        for (int many = 0; many <= 6; many++) {
            GalleonWave x = evidence(many);
            Check.due("evidence", x.getEvidence(0), many);
            if (many < 3) {
                Check.dueUnsupported("a raid with " + many, () -> x.raid(0, 0));
                Check.due("evidence of " + many + " stays", x.getEvidence(0), many);
            } else {
                Check.due("a raid with " + many, x.raid(0, 0), 0);
                Check.due("evidence of " + many + " is 0", x.getEvidence(0), 0);
                Check.dueUnsupported("a second raid", () -> x.raid(0, 0));
            }
        }
    }

    /** "a ship that is inside its line": its own line by now, whatever other lands' are. */
    private static void insideItsLine() {
        for (int line = 28; line <= 32; line++) {
            GalleonWave x = evidence(4);
            x.addLand(30, 30, 1);
            x.addAct(0, 1, line, 0);
            x.pass(1);
            if (line < 30) {
                Check.dueUnsupported("a line of " + line, () -> x.raid(0, 0));
                Check.due("inside of another one", x.getInside(0), 2);
            } else {
                Check.due("a line of " + line, x.raid(0, 0), 0);
            }
            Check.due("evidence with a line of " + line, x.getEvidence(0), line < 30 ? 4 : 0);
        }
        GalleonWave y = new GalleonWave();
        y.addLand(0, 0, 1);
        y.addLand(10, 0, 1);
        y.addShip(30, 0);
        y.addAct(1, 0, 20, 1);
        for (int i = 0; i < 3; i++) {
            y.send(1, 0, false);
        }
        Check.due("inside of the lower one", y.getInside(0), 0);
        Check.due("raided by the higher one", y.raid(1, 0), 0);
        Check.due("its evidence", y.getEvidence(1), 0);
        Check.due("the lower one's", y.getEvidence(0), 3);
    }

    /** "it loses its crystal, what was earned and not banked is gone, and the evidence is 0" */
    private static void whatIsGone() {
        GalleonWave x = new GalleonWave();
        x.addLand(0, 0, 1);
        x.addLand(900, 900, 1);
        x.addTown(1, 30, 0, 70);
        x.addPerson(1, 'd');
        Scene.addStation(x, 30, 0, 3, 20);
        Scene.addStation(x, 36, 0, 4, 20);
        x.addTown(1, 36, 0, 90);
        x.sell(0, 5);
        x.pass(1);
        x.bank(0);
        x.pass(2);
        Check.due("earned", x.getEarned(0), 14);
        int fuel = x.getFuel(0);
        int food = x.getFood(0);
        int money = x.getMoney();
        Check.due("gone", x.raid(0, 0), 14);
        Check.due("crystal", x.getChannel(0), -1);
        Check.due("earned then", x.getEarned(0), 0);
        Check.due("evidence", x.getEvidence(0), 0);
        Check.due("what is banked stays", x.getMoney(), money);
        Check.due("fuel stays", x.getFuel(0), fuel);
        Check.due("food stays", x.getFood(0), food);
        Check.due("people stay", x.getAboard(1), 0);
        Check.due("the other ship's crystal stays", x.getChannel(1), 4);
        Check.due("in the last hour it was on the air", x.isOnAir(0), true);
        x.pass(1);
        Check.due("in the next it is not", x.isOnAir(0), false);
    }

    /** "A rival ship that is within 10 of another one can board it" */
    private static void withinTen() {
        for (int far = 8; far <= 12; far++) {
            for (int way = 0; way < 4; way++) {
                GalleonWave x = Scene.sea();
                int east = way == 0 ? far : way == 1 ? -far : 0;
                int north = way == 2 ? far : way == 3 ? -far : 0;
                x.addShip(100, 100);
                x.addShip(100 + east, 100 + north);
                x.addPerson(0, 'e');
                Scene.board(x, 0, 0);
                Scene.supply(x, 1, 0, 0, 0);
                if (far <= 10) {
                    Check.due("as far as " + far, x.board(0, 1), true);
                } else {
                    Check.dueUnsupported("as far as " + far, () -> x.board(0, 1));
                }
                Check.due("channel from " + far, x.getChannel(0), far <= 10 ? 0 : -1);
                Check.due("the other one's from " + far, x.getChannel(1), far <= 10 ? -1 : 0);
            }
        }
    }

    /** "if more people are aboard of it than of the other one": as many are not enough; those ashore do not count. */
    private static void morePeople() {
        for (int one = 0; one <= 4; one++) {
            for (int other = 0; other <= 4; other++) {
                GalleonWave x = crews(one, other);
                Check.due(one + " boards " + other, x.board(0, 1), one > other);
                Check.due("crystal of " + one, x.getChannel(0), one > other ? 7 : 6);
                Check.due("crystal of " + other, x.getChannel(1), one > other ? -1 : 7);
                Check.due("people stay", x.getMeanCrew() == (one + other) / 3.0, true);
            }
        }
    }

    /** Ships 0 and 1 beside one another, on channels 6 and 7, and ship 2 with nobody; two people stay ashore. */
    private static GalleonWave crews(int one, int other) {
        GalleonWave x = Scene.sea();
        for (int i = 0; i < 3; i++) {
            x.addShip(5 * i, 5 * i);
        }
        for (int i = 0; i < one + other; i++) {
            x.addPerson(0, i % 2 == 0 ? 'd' : 'e');
            Scene.board(x, i < one ? 0 : 1, i);
        }
        x.addPerson(0, 'd');
        x.addPerson(0, 'd');
        Scene.supply(x, 0, 0, 0, 6);
        Scene.supply(x, 1, 0, 0, 7);
        return x;
    }

    /** "it takes the crystal, in place of its own" */
    private static void inPlaceOfItsOwn() {
        GalleonWave x = crews(2, 1);
        Check.due("takes", x.board(0, 1), true);
        Check.due("nothing left to take", x.board(0, 1), false);
        Check.due("what it took stays", x.getChannel(0), 7);
        Check.due("fewer do not get it back", x.board(1, 0), false);
        Check.due("still", x.getChannel(1), -1);
        Scene.supply(x, 1, 0, 0, 7);
        Check.due("the same channel is a crystal too", x.board(0, 1), true);
        Check.due("its channel", x.getChannel(0), 7);
        GalleonWave y = crews(2, 1);
        Scene.supply(y, 2, 0, 0, 8);
        Check.due("one that nobody is aboard of", y.board(0, 2), true);
        Check.due("its crystal", y.getChannel(0), 8);
        Check.due("one without a crystal", y.board(1, 2), false);
        Check.due("keeps its own", y.getChannel(1), 7);
    }

    private static void boardedOffTheAir() {
        GalleonWave x = Scene.sea();
        Scene.addStation(x, 0, 0, 3, 20);
        Scene.addStation(x, 5, 0, 4, 20);
        x.addPerson(0, 'e');
        Scene.board(x, 1, 2);
        x.pass(1);
        Check.due("boards", x.board(1, 0), true);
        x.pass(1);
        Check.due("without a crystal", x.isOnAir(0), false);
        Check.due("with another one", x.isOnAir(1), true);
        x.addRecording(3, -1, 1);
        x.addRecording(4, -1, 1);
        Check.due("its channel is the other one now", x.getDate(0, false), 1);
        Check.due("as it was", x.getDate(1, true), 0);
    }
}
