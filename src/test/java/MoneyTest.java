/** Promises 37 to 43: spots, banking, money, evidence, raids and boardings. */
public final class MoneyTest {
    public static void main(String[] args) {
        sell();
        spotsPlayed();
        spotPrice();
        spotsForbidden();
        spotsForbiddenInside();
        bank();
        getMoney();
        getEvidence();
        raid();
        raidOfSeveralLands();
        board();
        boardByCrew();
        Check.end("MoneyTest");
    }

    private static void sell() {
        GalleonWave x = Scene.sea();
        Check.dueIndex("no ship first", () -> x.sell(0, 0));
        x.addShip(0, 0);
        x.addShip(0, 0);
        Check.dueArgument("0 spots", () -> x.sell(0, 0));
        Check.dueArgument("-1 spots", () -> x.sell(0, -1));
        Check.dueArgument("21 spots", () -> x.sell(0, 21));
        Check.due("12 spots", x.sell(0, 12), 12);
        Check.dueUnsupported("21 in all", () -> x.sell(0, 9));
        Check.due("20 in all", x.sell(0, 8), 20);
        Check.dueArgument("the first exception", () -> x.sell(0, 21));
        Check.dueUnsupported("one more", () -> x.sell(0, 1));
        Check.due("for another ship", x.sell(1, 20), 20);
        x.pass(23);
        Check.dueUnsupported("on the same day", () -> x.sell(0, 1));
        x.pass(1);
        Check.due("on the next day, none is played yet", x.sell(0, 20), 40);
        Check.dueUnsupported("21 on that day", () -> x.sell(0, 1));
        x.pass(96);
        Check.due("on a later day", x.sell(0, 1), 41);
        Check.due("and", x.sell(0, 19), 60);
        Check.dueUnsupported("21 on that day too", () -> x.sell(0, 1));
        Check.dueIndex("ship 2", () -> x.sell(2, 1));
        Check.dueIndex("ship -1", () -> x.sell(-1, 1));
    }

    private static void spotsPlayed() {
        GalleonWave x = Scene.station();
        x.addTown(0, 0, 0, 100);
        x.pass(1);
        Check.due("no spots", x.getEarned(0), 0);
        x.sell(0, 3);
        x.pass(1);
        Check.due("one each hour", x.getEarned(0), 10);
        Check.due("2 left, and 1", x.sell(0, 1), 3);
        x.setPower(0, 0);
        x.pass(2);
        Check.due("none off the air", x.getEarned(0), 10);
        Check.due("3 left, and 1", x.sell(0, 1), 4);
        x.setPower(0, 20);
        x.pass(5);
        Check.due("4 more, then none are left", x.getEarned(0), 50);
        Check.due("none left, and 1", x.sell(0, 1), 1);
        GalleonWave lonely = Scene.station();
        lonely.sell(0, 2);
        lonely.pass(1);
        Check.due("played though nobody listens", lonely.sell(0, 1), 2);
        Check.due("for nothing", lonely.getEarned(0), 0);
    }

    private static void spotPrice() {
        GalleonWave x = Scene.sea();
        x.addTown(0, 0, 0, 9);
        Scene.addStation(x, 0, 0, 4, 20);
        Scene.addStation(x, 300, 0, 4, 20);
        x.sell(0, 20);
        x.sell(1, 20);
        x.pass(1);
        Check.due("of 9 thousands", x.getEarned(0), 0);
        x.addTown(0, 1, 0, 1);
        x.addTown(0, 300, 0, 999);
        x.pass(1);
        Check.due("of 10 in all", x.getEarned(0), 1);
        Check.due("the other ship's", x.getEarned(1), 99);
        x.addTown(0, 1, 1, 29);
        x.pass(1);
        Check.due("of 39 in all", x.getEarned(0), 4);
    }

    private static void spotsForbidden() {
        GalleonWave x = new GalleonWave();
        x.addLand(900, 900, 1);
        x.addLand(-900, 900, 1);
        x.addTown(0, 0, 0, 100);
        x.addTown(1, 0, 0, 70);
        Scene.addStation(x, 0, 0, 4, 20);
        x.sell(0, 20);
        x.pass(1);
        Check.due("of both lands", x.getEarned(0), 17);
        x.addAct(0, 1, 30, 3);
        x.pass(1);
        Check.due("all else is forbidden", x.getEarned(0), 34);
        x.addAct(0, 2, 30, 4);
        x.addAct(0, 3, 30, 0);
        x.addAct(1, 3, 30, 7);
        x.pass(1);
        Check.due("forbidden by one", x.getEarned(0), 41);
        Check.due("which listens all the same", x.getListeners(0), 170);
        x.pass(1);
        Check.due("forbidden by the other one", x.getEarned(0), 51);
        x.addAct(0, 4, 30, 4);
        x.pass(1);
        Check.due("forbidden by both", x.getEarned(0), 51);
        Check.dueUnsupported("20 were sold", () -> x.sell(0, 1));
        x.pass(19);
        Check.due("still forbidden", x.getEarned(0), 51);
        Check.due("all were played all the same", x.sell(0, 1), 1);
    }

    private static void spotsForbiddenInside() {
        GalleonWave x = new GalleonWave();
        x.addLand(900, 900, 1);
        x.addLand(20, 0, 1);
        x.addLand(-20, 0, 1);
        x.addTown(0, 0, 5, 100);
        x.addTown(1, 0, 5, 70);
        x.addTown(2, 0, 5, 30);
        Scene.addStation(x, 0, 0, 4, 20);
        x.sell(0, 20);
        x.pass(1);
        Check.due("not of the land inside which it is, the lowest number", x.getEarned(0), 13);
        x.addAct(1, 1, 0, 0);
        x.pass(1);
        Check.due("now inside of the other one", x.getEarned(0), 30);
        Check.due("they listen all the same", x.getListeners(0), 200);
    }

    private static void bank() {
        GalleonWave x = Scene.station();
        Check.dueIndex("ship 1", () -> x.bank(1));
        Check.dueIndex("ship -1", () -> x.bank(-1));
        x.addTown(0, 0, 0, 100);
        int money = x.getMoney();
        x.sell(0, 2);
        x.pass(2);
        Check.due("earned", x.getEarned(0), 20);
        Check.due("not banked yet", x.getMoney(), money);
        Check.due("the money then", x.bank(0), money + 20);
        Check.due("the money", x.getMoney(), money + 20);
        Check.due("none is left to bank", x.getEarned(0), 0);
        Check.due("nothing", x.bank(0), money + 20);
        Check.dueIndex("earned of ship 1", () -> x.getEarned(1));
        Check.dueIndex("earned of ship -1", () -> x.getEarned(-1));
    }

    private static void getMoney() {
        GalleonWave x = Scene.sea();
        Check.due("none at first", x.getMoney(), 0);
        x.addShip(0, 0);
        x.load(0, 10, 5, -1);
        Check.due("loading costs nothing yet", x.getMoney(), 0);
        x.send(0, 0, false);
        Check.due("below 0", x.getMoney(), -65);
    }

    private static void getEvidence() {
        GalleonWave x = new GalleonWave();
        Check.dueIndex("no land", () -> x.getEvidence(0));
        x.addLand(0, 0, 5);
        Check.due("none at first", x.getEvidence(0), 0);
        x.addShip(20, 0);
        x.send(0, 0, false);
        x.send(0, 0, false);
        Check.due("two offences", x.getEvidence(0), 2);
        Check.dueIndex("land 1", () -> x.getEvidence(1));
        Check.dueIndex("land -1", () -> x.getEvidence(-1));
    }

    private static void raid() {
        GalleonWave x = new GalleonWave();
        Check.dueIndex("nothing", () -> x.raid(0, 0));
        x.addLand(0, 0, 5);
        Check.dueIndex("no ship", () -> x.raid(0, 0));
        x.addLand(900, 900, 1);
        x.addTown(1, 31, 0, 100);
        Scene.addStation(x, 31, 0, 4, 20);
        x.addAct(0, 0, 30, 1);
        Check.due("no evidence", x.getEvidence(0), 0);
        x.sell(0, 20);
        x.pass(2);
        Check.due("earned", x.getEarned(0), 20);
        x.send(0, 0, false);
        x.send(0, 0, false);
        x.send(0, 0, false);
        Check.due("enough evidence", x.getEvidence(0), 3);
        Check.dueUnsupported("but outside of the line", () -> x.raid(0, 0));
        x.addAct(0, 2, 31, 0);
        int money = x.getMoney();
        Check.due("what is gone", x.raid(0, 0), 20);
        Check.due("the evidence is 0", x.getEvidence(0), 0);
        Check.due("the crystal is gone", x.getChannel(0), -1);
        Check.due("what was earned is gone", x.getEarned(0), 0);
        Check.due("the money is not", x.getMoney(), money);
        x.pass(22);
        Check.due("the spots are not", x.sell(0, 1), 19);
        Check.dueUnsupported("no evidence any more", () -> x.raid(0, 0));
        x.pass(1);
        Check.due("off the air", x.isOnAir(0), false);
        x.send(1, 0, false);
        x.send(1, 0, false);
        Check.due("two offences inside", x.getEvidence(0), 2);
        Check.dueUnsupported("two are too few", () -> x.raid(0, 0));
        x.send(1, 0, false);
        x.send(1, 0, false);
        Check.due("nothing earned", x.raid(0, 0), 0);
        Check.due("the evidence is 0 again", x.getEvidence(0), 0);
        Check.dueIndex("land 2", () -> x.raid(2, 0));
        Check.dueIndex("land -1", () -> x.raid(-1, 0));
        Check.dueIndex("ship 1", () -> x.raid(0, 1));
        Check.dueIndex("ship -1", () -> x.raid(0, -1));
    }

    private static void raidOfSeveralLands() {
        GalleonWave x = new GalleonWave();
        x.addLand(0, 0, 5);
        x.addLand(40, 0, 5);
        x.addShip(20, 0);
        x.addAct(1, 0, 30, 1);
        for (int i = 0; i < 3; i++) {
            x.send(1, 0, false);
        }
        Check.due("inside of 0", x.getInside(0), 0);
        Check.due("evidence of 1", x.getEvidence(1), 3);
        Check.due("inside of the line of 1 too", x.raid(1, 0), 0);
        Check.due("evidence of 1 is 0", x.getEvidence(1), 0);
        Check.due("evidence of 0 stays", x.getEvidence(0), 3);
    }

    private static void board() {
        GalleonWave x = Scene.sea();
        Check.dueIndex("no ships", () -> x.board(0, 0));
        x.addShip(0, 0);
        Check.dueIndex("no other ship", () -> x.board(0, 1));
        Check.dueIndex("no such ship", () -> x.board(1, 0));
        Check.dueIndex("ship -1", () -> x.board(-1, 0));
        Check.dueIndex("other -1", () -> x.board(0, -1));
        Check.dueArgument("the same", () -> x.board(0, 0));
        x.addShip(10, -10);
        x.addShip(11, 0);
        x.addShip(0, -11);
        Check.due("within 10", x.board(0, 1), false);
        Check.dueUnsupported("11 to the east", () -> x.board(0, 2));
        Check.dueUnsupported("11 to the south", () -> x.board(3, 0));
        Check.dueUnsupported("back again", () -> x.board(2, 0));
        Check.dueIndex("ship 4", () -> x.board(4, 0));
        Check.dueIndex("other 4", () -> x.board(0, 4));
        Check.dueIndex("ship 4 itself", () -> x.board(4, 4));
    }

    private static void boardByCrew() {
        GalleonWave x = Scene.sea();
        x.addShip(0, 0);
        x.addShip(3, 3);
        for (int i = 0; i < 4; i++) {
            x.addPerson(0, 'e');
        }
        Scene.supply(x, 0, 0, 0, 4);
        Scene.supply(x, 1, 0, 0, 5);
        Check.due("none aboard of either", x.board(0, 1), false);
        Scene.board(x, 0, 0);
        Scene.board(x, 1, 1);
        Check.due("as many", x.board(0, 1), false);
        Check.due("its own stays", x.getChannel(0), 4);
        Check.due("the other one's stays", x.getChannel(1), 5);
        Scene.board(x, 0, 2);
        Check.due("fewer", x.board(1, 0), false);
        Check.due("more", x.board(0, 1), true);
        Check.due("in place of its own", x.getChannel(0), 5);
        Check.due("the other one has none", x.getChannel(1), -1);
        Check.due("nothing to take", x.board(0, 1), false);
        Check.due("its own stays then", x.getChannel(0), 5);
        Scene.board(x, 1, 3);
        Check.due("as many again", x.board(1, 0), false);
        GalleonWave y = Scene.sea();
        y.addShip(0, 0);
        y.addShip(3, 3);
        y.addPerson(0, 'd');
        Scene.supply(y, 1, 0, 0, 0);
        Scene.board(y, 0, 0);
        Check.due("one without a crystal takes channel 0", y.board(0, 1), true);
        Check.due("channel 0", y.getChannel(0), 0);
    }
}
