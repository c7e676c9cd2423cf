/** Promises 28 to 36: people, tenders, plans, who speaks, and mutiny. */
public final class PeopleTest {
    public static void main(String[] args) {
        addPerson();
        getAboard();
        isTired();
        load();
        book();
        send();
        sendByWeather();
        sendCrystal();
        sendBack();
        sendOffences();
        sendOffencesInside();
        plan();
        getSpeaker();
        speakerInPlaceOfAnother();
        tiredSpeaker();
        lastTape();
        speechOffences();
        speechOffencesInside();
        isMutiny();
        mutinyInARow();
        mutinyAfterTender();
        Check.end("PeopleTest");
    }

    private static void addPerson() {
        GalleonWave x = new GalleonWave();
        Check.dueIndex("no land first", () -> x.addPerson(0, 'x'));
        x.addLand(0, 0, 5);
        Check.dueIndex("land 1", () -> x.addPerson(1, 'd'));
        Check.dueIndex("land -1", () -> x.addPerson(-1, 'd'));
        Check.dueArgument("no such kind", () -> x.addPerson(0, 'D'));
        Check.dueArgument("kind 0", () -> x.addPerson(0, (char) 0));
        for (int i = 0; i < 12; i++) {
            Check.due("person " + i, x.addPerson(0, i % 2 == 0 ? 'd' : 'e'), i);
        }
        Check.dueArgument("the first exception", () -> x.addPerson(0, 'x'));
        Check.dueState("a thirteenth", () -> x.addPerson(0, 'd'));
        Check.due("ashore at first", x.getAboard(11), -1);
    }

    private static void getAboard() {
        GalleonWave x = Scene.sea();
        Check.dueIndex("nobody", () -> x.getAboard(0));
        x.addShip(0, 0);
        x.addShip(0, 0);
        x.addPerson(0, 'd');
        Check.due("ashore", x.getAboard(0), -1);
        x.book(0, 0, true);
        Check.due("ashore still", x.getAboard(0), -1);
        x.send(0, 1, false);
        Check.due("aboard", x.getAboard(0), 1);
        Check.dueIndex("person 1", () -> x.getAboard(1));
        Check.dueIndex("person -1", () -> x.getAboard(-1));
    }

    private static void isTired() {
        GalleonWave x = Scene.sea();
        Check.dueIndex("nobody", () -> x.isTired(0));
        x.addShip(0, 0);
        x.addPerson(0, 'd');
        x.addPerson(0, 'e');
        Scene.passLong(x, 10);
        Scene.board(x, 0, 0);
        Scene.passLong(x, 5);
        Scene.board(x, 0, 1);
        Scene.passLong(x, 330);
        Check.due("335 hours", x.isTired(0), false);
        x.pass(1);
        Check.due("336 hours", x.isTired(0), true);
        Check.due("331 hours", x.isTired(1), false);
        x.pass(5);
        Check.due("an engineer gets tired too", x.isTired(1), true);
        x.send(0, 0, true);
        Check.due("false ashore", x.isTired(0), false);
        Scene.board(x, 0, 0);
        Check.due("anew", x.isTired(0), false);
        Scene.passLong(x, 335);
        Check.due("335 hours anew", x.isTired(0), false);
        x.pass(1);
        Check.due("336 hours anew", x.isTired(0), true);
        Check.dueIndex("person 2", () -> x.isTired(2));
        Check.dueIndex("person -1", () -> x.isTired(-1));
    }

    private static void load() {
        GalleonWave x = new GalleonWave();
        Check.dueIndex("no land first", () -> x.load(0, -1, 0, 0));
        x.addLand(900, 900, 1);
        x.addLand(900, 900, 1);
        Check.dueArgument("fuel -1", () -> x.load(0, -1, 0, 0));
        Check.dueArgument("fuel 10000", () -> x.load(0, 10000, 0, 0));
        Check.dueArgument("food -1", () -> x.load(0, 0, -1, 0));
        Check.dueArgument("food 1000", () -> x.load(0, 0, 1000, 0));
        Check.dueArgument("crystal -2", () -> x.load(0, 0, 0, -2));
        Check.dueArgument("crystal 10", () -> x.load(0, 0, 0, 10));
        Check.due("nothing", x.load(0, 0, 0, -1), 50);
        Check.due("the most", x.load(0, 9999, 999, 9), 11048);
        Check.due("more", x.load(0, 9999, 999, 0), 22046);
        Check.due("another land's", x.load(1, 3, 4, -1), 57);
        x.addShip(0, 0);
        x.setWind(8, 'n');
        Check.dueUnsupported("the wind", () -> x.send(0, 0, false));
        Check.due("kept until it goes", x.load(0, 1, 0, -1), 22047);
        x.setWind(7, 'n');
        Check.due("sent", x.send(0, 0, false), -22047);
        Check.due("nothing is left", x.load(0, 0, 0, -1), 50);
        Check.due("another land's still is", x.load(1, 0, 0, -1), 57);
        Check.dueIndex("land 2", () -> x.load(2, 0, 0, 0));
        Check.dueIndex("land -1", () -> x.load(-1, 0, 0, 0));
    }

    private static void book() {
        GalleonWave x = new GalleonWave();
        Check.dueIndex("nothing", () -> x.book(0, 0, true));
        x.addLand(900, 900, 1);
        x.addLand(900, 900, 1);
        Check.dueIndex("nobody", () -> x.book(0, 0, true));
        x.addPerson(0, 'd');
        x.addPerson(0, 'e');
        x.addPerson(1, 'd');
        x.addShip(0, 0);
        Check.dueIndex("land 2", () -> x.book(2, 0, true));
        Check.dueIndex("land -1", () -> x.book(-1, 0, true));
        Check.dueIndex("person 3", () -> x.book(0, 3, true));
        Check.dueIndex("person -1", () -> x.book(0, -1, true));
        Check.due("none", x.book(0, 0, false), 0);
        Check.due("one", x.book(0, 0, true), 1);
        Check.due("the same", x.book(0, 0, true), 1);
        Check.due("another land's people too", x.book(0, 2, true), 2);
        Check.dueUnsupported("with the tender of another land", () -> x.book(1, 0, true));
        Check.dueUnsupported("nor may that one take it back", () -> x.book(1, 0, false));
        Check.due("not", x.book(0, 0, false), 1);
        Check.due("now with the other one", x.book(1, 0, true), 1);
        x.send(0, 0, false);
        Check.due("went", x.getAboard(2), 0);
        Check.due("did not go", x.getAboard(0), -1);
        Check.due("did not go either", x.getAboard(1), -1);
        Check.dueUnsupported("aboard", () -> x.book(0, 2, true));
        Check.dueUnsupported("aboard, and not", () -> x.book(1, 2, false));
        Check.due("none any more", x.book(0, 1, false), 0);
        x.send(1, 0, false);
        Check.due("went now", x.getAboard(0), 0);
    }

    private static void send() {
        GalleonWave x = new GalleonWave();
        Check.dueIndex("nothing", () -> x.send(0, 0, false));
        x.addLand(900, 900, 1);
        Check.dueIndex("no ship", () -> x.send(0, 0, false));
        x.addShip(0, 0);
        x.addShip(0, 0);
        x.addPerson(0, 'd');
        x.addPerson(0, 'e');
        x.addPerson(0, 'd');
        x.load(0, 100, 20, 4);
        x.load(0, 11, 2, -1);
        x.book(0, 0, true);
        x.book(0, 2, true);
        Check.due("50 and 133", x.send(0, 1, false), -183);
        Check.due("fuel", x.getFuel(1), 111);
        Check.due("food", x.getFood(1), 22);
        Check.due("crystal", x.getChannel(1), 4);
        Check.due("0 is aboard", x.getAboard(0), 1);
        Check.due("1 is not", x.getAboard(1), -1);
        Check.due("2 is aboard", x.getAboard(2), 1);
        Check.due("the other ship got nothing", x.getFuel(0), 0);
        Check.due("nor a crystal", x.getChannel(0), -1);
        Check.due("an empty one", x.send(0, 0, true), -233);
        Check.due("the money", x.getMoney(), -233);
        Check.due("nothing came with it", x.getFuel(0), 0);
        x.load(0, 5, 6, -1);
        x.send(0, 1, false);
        Check.due("fuel adds up", x.getFuel(1), 116);
        Check.due("food adds up", x.getFood(1), 28);
        Check.dueIndex("land 1", () -> x.send(1, 0, false));
        Check.dueIndex("land -1", () -> x.send(-1, 0, false));
        Check.dueIndex("ship 2", () -> x.send(0, 2, false));
        Check.dueIndex("ship -1", () -> x.send(0, -1, false));
    }

    private static void sendByWeather() {
        GalleonWave x = Scene.sea();
        x.addShip(0, 0);
        x.setWind(8, 'n');
        Check.dueIndex("no such ship first", () -> x.send(0, 1, false));
        Check.dueUnsupported("a wind of 8", () -> x.send(0, 0, false));
        Check.due("it cost nothing", x.getMoney(), 0);
        x.setWind(7, 'n');
        Check.due("a wind of 7", x.send(0, 0, false), -50);
        x.setWind(12, 'n');
        Check.dueUnsupported("a wind of 12", () -> x.send(0, 0, false));
    }

    private static void sendCrystal() {
        GalleonWave x = Scene.sea();
        x.addShip(0, 0);
        x.load(0, 0, 0, 4);
        x.load(0, 0, 0, 0);
        x.load(0, 0, 0, -1);
        x.send(0, 0, false);
        Check.due("the one loaded last", x.getChannel(0), 0);
        x.load(0, 0, 0, 8);
        x.send(0, 0, false);
        Check.due("in place of it", x.getChannel(0), 8);
        x.send(0, 0, false);
        Check.due("no new one", x.getChannel(0), 8);
    }

    private static void sendBack() {
        GalleonWave x = Scene.sea();
        x.addShip(0, 0);
        x.addShip(0, 0);
        for (int i = 0; i < 4; i++) {
            x.addPerson(0, 'd');
        }
        Scene.board(x, 0, 0);
        Scene.board(x, 1, 1);
        Scene.passLong(x, 1);
        Scene.board(x, 0, 2);
        Scene.passLong(x, 335);
        x.book(0, 3, true);
        x.send(0, 0, true);
        Check.due("tired, and back", x.getAboard(0), -1);
        Check.due("tired, of another ship", x.getAboard(1), 1);
        Check.due("not tired", x.getAboard(2), 0);
        Check.due("just come", x.getAboard(3), 0);
        x.pass(1);
        x.send(0, 0, false);
        Check.due("tired, but none come back", x.getAboard(2), 0);
        x.send(0, 0, true);
        Check.due("back now", x.getAboard(2), -1);
        Check.due("who came back can be booked", x.book(0, 0, true), 1);
    }

    private static void sendOffences() {
        GalleonWave x = new GalleonWave();
        x.addLand(0, 0, 5);
        x.addLand(900, 900, 1);
        x.addShip(400, 0);
        x.send(0, 0, false);
        Check.due("without an act", x.getEvidence(0), 0);
        x.addAct(0, 0, 30, 6);
        x.send(0, 0, false);
        Check.due("all else is forbidden", x.getEvidence(0), 0);
        x.addAct(0, 0, 30, 1);
        x.send(0, 0, false);
        Check.due("forbidden", x.getEvidence(0), 1);
        x.send(1, 0, false);
        Check.due("from another land", x.getEvidence(0), 1);
        Check.due("which forbids nothing", x.getEvidence(1), 0);
        x.addAct(0, 1, 30, 0);
        x.send(0, 0, false);
        Check.due("still forbidden", x.getEvidence(0), 2);
        x.pass(1);
        x.send(0, 0, false);
        Check.due("allowed again", x.getEvidence(0), 2);
    }

    private static void sendOffencesInside() {
        GalleonWave x = new GalleonWave();
        x.addLand(0, 0, 5);
        x.addLand(50, 0, 5);
        x.addLand(900, 900, 1);
        x.addShip(30, 0);
        x.send(2, 0, false);
        Check.due("inside of 0 and 1, the lowest number", x.getEvidence(0), 1);
        Check.due("not of 1", x.getEvidence(1), 0);
        x.send(0, 0, false);
        Check.due("of the own land", x.getEvidence(0), 2);
        x.addAct(0, 0, 30, 1);
        x.send(0, 0, false);
        Check.due("only one if they are the same", x.getEvidence(0), 3);
        x.send(1, 0, false);
        Check.due("1 does not forbid", x.getEvidence(1), 0);
        Check.due("but 0 does", x.getEvidence(0), 4);
        x.addAct(1, 0, 30, 1);
        x.send(1, 0, false);
        Check.due("1 forbids", x.getEvidence(1), 1);
        Check.due("and 0 too", x.getEvidence(0), 5);
        Check.due("the far one has none", x.getEvidence(2), 0);
    }

    private static void plan() {
        GalleonWave x = Scene.sea();
        Check.dueIndex("no ship first", () -> x.plan(0, 24, 300));
        x.addShip(0, 0);
        x.addShip(0, 0);
        x.addPerson(0, 'd');
        x.addPerson(0, 'e');
        Check.dueArgument("hour -1", () -> x.plan(0, -1, 0));
        Check.dueArgument("hour 24", () -> x.plan(0, 24, 0));
        Check.dueArgument("person 2", () -> x.plan(0, 0, 2));
        Check.dueArgument("who -2", () -> x.plan(0, 0, -2));
        Check.dueArgument("tape 99", () -> x.plan(0, 0, 99));
        Check.dueArgument("tape 200", () -> x.plan(0, 0, 200));
        Check.due("nothing at first", x.plan(0, 0, 100), -1);
        Check.due("tape 100", x.plan(0, 0, 199), 100);
        Check.due("tape 199", x.plan(0, 0, 1), 199);
        Check.due("person 1", x.plan(0, 0, 0), 1);
        Check.due("person 0", x.plan(0, 0, -1), 0);
        Check.due("nothing", x.plan(0, 0, -1), -1);
        for (int hour = 0; hour < 24; hour++) {
            Check.due("hour " + hour, x.plan(0, hour, 100 + hour), -1);
        }
        for (int hour = 0; hour < 24; hour++) {
            Check.due("hour " + hour, x.plan(0, hour, -1), 100 + hour);
        }
        Check.due("of another ship", x.plan(1, 0, 0), -1);
        Check.dueIndex("ship 2", () -> x.plan(2, 0, 0));
        Check.dueIndex("ship -1", () -> x.plan(-1, 0, 0));
    }

    private static void getSpeaker() {
        GalleonWave x = Scene.station();
        Check.dueThrow("not yet", java.util.NoSuchElementException.class, () -> x.getSpeaker(0));
        x.plan(0, 0, 0);
        x.plan(0, 1, 150);
        x.pass(1);
        Check.due("as planned", x.getSpeaker(0), 0);
        x.pass(1);
        Check.due("a tape as planned", x.getSpeaker(0), 150);
        x.pass(1);
        Check.due("who is planned in another hour does not stand in", x.getSpeaker(0), 150);
        x.plan(0, 0, -1);
        Check.due("in the last hour", x.getSpeaker(0), 150);
        x.pass(1);
        Check.due("who is not planned stands in", x.getSpeaker(0), 0);
        x.setPower(0, 0);
        Check.due("in the last hour still", x.getSpeaker(0), 0);
        x.pass(1);
        Check.dueThrow("off the air", java.util.NoSuchElementException.class, () -> x.getSpeaker(0));
        Check.dueIndex("ship 1", () -> x.getSpeaker(1));
        Check.dueIndex("ship -1", () -> x.getSpeaker(-1));
        GalleonWave day = Scene.station();
        day.plan(0, 1, 150);
        day.pass(26);
        Check.due("in the same hour of the next day", day.getSpeaker(0), 150);
    }

    private static void speakerInPlaceOfAnother() {
        GalleonWave x = Scene.station();
        Scene.addStation(x, 300, 0, 5, 20);
        x.addPerson(0, 'e');
        x.addPerson(0, 'd');
        x.addPerson(0, 'd');
        Scene.board(x, 0, 2);
        Scene.board(x, 0, 3);
        x.plan(0, 0, 4);
        x.plan(0, 1, 2);
        x.plan(0, 2, 1);
        x.plan(0, 3, 3);
        x.pass(1);
        Check.due("for one ashore, the lowest number", x.getSpeaker(0), 0);
        x.pass(1);
        Check.due("for an engineer", x.getSpeaker(0), 0);
        x.pass(1);
        Check.due("for one of another ship", x.getSpeaker(0), 0);
        x.pass(1);
        Check.due("as planned", x.getSpeaker(0), 3);
        x.plan(0, 23, 0);
        x.plan(0, 3, -1);
        x.pass(1);
        Check.due("the other one, if 0 is planned in another hour", x.getSpeaker(0), 3);
        Scene.board(x, 0, 4);
        x.plan(0, 5, 3);
        x.plan(0, 6, 3);
        x.pass(1);
        Check.due("as planned, though planned in another hour too", x.getSpeaker(0), 3);
        x.plan(0, 6, -1);
        x.plan(0, 0, -1);
        x.pass(1);
        Check.due("none of those planned, though higher", x.getSpeaker(0), 4);
        x.plan(0, 0, 4);
        x.pass(1);
        Check.due("a tone, if all are planned in other hours", x.getSpeaker(0), 200);
        Check.due("on the other ship its own", x.getSpeaker(1), 1);
        GalleonWave alone = Scene.sea();
        Scene.addStation(alone, 0, 0, 4, 20);
        alone.addShip(300, 0);
        alone.plan(1, 7, 0);
        alone.plan(1, 8, 120);
        alone.pass(1);
        Check.due("planned for another ship only", alone.getSpeaker(0), 0);
        GalleonWave engineer = Scene.sea();
        engineer.addPerson(0, 'e');
        engineer.addShip(0, 0);
        engineer.addGenerator(0, 50, 99);
        engineer.setGenerator(0, 0, true);
        Scene.supply(engineer, 0, 999, 99, 4);
        Scene.board(engineer, 0, 0);
        engineer.setPower(0, 5);
        engineer.pass(1);
        Check.due("an engineer does not speak", engineer.getSpeaker(0), 200);
    }

    private static void tiredSpeaker() {
        GalleonWave x = Scene.sea();
        Scene.addStation(x, 0, 0, 4, 5);
        x.addPerson(0, 'd');
        for (int hour = 0; hour < 24; hour++) {
            x.plan(0, hour, hour % 2 == 0 ? 0 : -1);
        }
        Scene.supply(x, 0, 9999, 0, -1);
        Scene.passLong(x, 335);
        Check.due("the 335th hour", x.getSpeaker(0), 0);
        Check.due("not tired yet", x.isTired(0), false);
        x.plan(0, 23, 0);
        x.pass(1);
        Check.due("the 336th hour", x.getSpeaker(0), 0);
        Check.due("tired", x.isTired(0), true);
        x.pass(1);
        Check.due("tired, and does not speak as planned", x.getSpeaker(0), 200);
        for (int hour = 0; hour < 24; hour++) {
            x.plan(0, hour, -1);
        }
        x.pass(1);
        Check.due("tired, and does not stand in", x.getSpeaker(0), 200);
        Scene.board(x, 0, 1);
        x.pass(1);
        Check.due("one who is not tired does", x.getSpeaker(0), 1);
    }

    private static void lastTape() {
        GalleonWave x = Scene.sea();
        x.addPerson(0, 'e');
        x.addShip(0, 0);
        x.addShip(300, 0);
        x.addGenerator(0, 50, 99);
        x.setGenerator(0, 0, true);
        Scene.supply(x, 0, 9999, 99, 4);
        Scene.board(x, 0, 0);
        x.setPower(0, 5);
        x.plan(1, 3, 190);
        x.pass(1);
        Check.due("a tone, without tapes", x.getSpeaker(0), 200);
        x.plan(0, 20, 110);
        x.plan(0, 4, 120);
        x.plan(0, 21, 0);
        x.pass(1);
        Check.due("planned last", x.getSpeaker(0), 120);
        x.plan(0, 4, -1);
        x.pass(1);
        Check.due("whether it still is or not", x.getSpeaker(0), 120);
        x.plan(0, 20, 130);
        x.pass(1);
        Check.due("planned last now", x.getSpeaker(0), 130);
        x.plan(0, 4, 140);
        x.plan(0, 5, 150);
        x.pass(1);
        Check.due("as planned", x.getSpeaker(0), 140);
        x.pass(2);
        Check.due("the one told last, not the one run last", x.getSpeaker(0), 150);
    }

    private static void speechOffences() {
        GalleonWave x = new GalleonWave();
        x.addLand(900, 900, 1);
        x.addLand(-900, 900, 1);
        Scene.addStation(x, 0, 0, 4, 20);
        x.addAct(1, 0, 30, 7);
        x.pass(3);
        Check.due("without an act", x.getEvidence(0), 0);
        x.addAct(0, 3, 30, 5);
        x.pass(3);
        Check.due("all else is forbidden", x.getEvidence(0), 0);
        x.addAct(0, 7, 30, 2);
        x.pass(1);
        Check.due("not yet", x.getEvidence(0), 0);
        x.pass(3);
        Check.due("each hour", x.getEvidence(0), 3);
        Check.due("not of a land that is not the own", x.getEvidence(1), 0);
        for (int hour = 0; hour < 24; hour++) {
            x.plan(0, hour, 100);
        }
        x.pass(5);
        Check.due("tapes make none", x.getEvidence(0), 3);
        for (int hour = 0; hour < 24; hour++) {
            x.plan(0, hour, -1);
        }
        x.pass(1);
        Check.due("speech again", x.getEvidence(0), 4);
        x.setPower(0, 0);
        x.pass(5);
        Check.due("none off the air", x.getEvidence(0), 4);
    }

    private static void speechOffencesInside() {
        GalleonWave x = new GalleonWave();
        x.addLand(900, 900, 1);
        x.addLand(60, 0, 5);
        x.addLand(40, 0, 5);
        x.addLand(50, 0, 5);
        Scene.addStation(x, 20, 0, 4, 20);
        int before = x.getEvidence(2);
        x.pass(2);
        Check.due("the land inside which it is, the lowest number", x.getEvidence(2), before + 2);
        Check.due("not one that is too far", x.getEvidence(1), 0);
        Check.due("not a higher one", x.getEvidence(3), 0);
        Check.due("not the own, which does not forbid it", x.getEvidence(0), 0);
        x.addAct(0, 2, 0, 2);
        x.pass(1);
        Check.due("the own too", x.getEvidence(0), 1);
        Check.due("and that one", x.getEvidence(2), before + 3);
        x.addAct(0, 3, 0, 0);
        x.addPerson(2, 'd');
        x.addPerson(2, 'd');
        x.book(0, 1, true);
        x.send(0, 0, false);
        x.plan(0, 3, 1);
        x.plan(0, 4, 1);
        before = x.getEvidence(2);
        x.pass(1);
        Check.due("the own is that one: one", x.getEvidence(2), before + 1);
        x.addAct(2, 4, 30, 2);
        x.pass(1);
        Check.due("one, if it forbids too", x.getEvidence(2), before + 2);
        for (int hour = 0; hour < 24; hour++) {
            x.plan(0, hour, 100);
        }
        x.pass(3);
        Check.due("none by tapes", x.getEvidence(2), before + 2);
    }

    private static void isMutiny() {
        GalleonWave x = Scene.sea();
        Check.dueIndex("no ship", () -> x.isMutiny(0));
        Scene.addStation(x, 0, 0, 4, 5);
        x.addShip(300, 0);
        x.addPerson(0, 'e');
        x.addPerson(0, 'e');
        Scene.passLong(x, 999);
        Check.due("fed to the last", x.getFood(0), 0);
        Scene.supply(x, 0, 9999, 0, -1);
        x.pass(23);
        Check.due("23 hours", x.isMutiny(0), false);
        Check.due("on the air", x.isOnAir(0), true);
        x.pass(1);
        Check.due("24 hours", x.isMutiny(0), true);
        Check.due("on the air for the last time", x.isOnAir(0), true);
        x.pass(1);
        Check.due("not on the air", x.isOnAir(0), false);
        Check.due("not on a ship without people", x.isMutiny(1), false);
        x.pass(30);
        Check.due("still", x.isMutiny(0), true);
        x.send(0, 1, false);
        Check.due("a tender to another ship", x.isMutiny(0), true);
        x.load(0, 0, 10, -1);
        x.send(0, 0, false);
        Check.due("a tender", x.isMutiny(0), false);
        x.pass(1);
        Check.due("on the air again", x.isOnAir(0), true);
        Check.dueIndex("ship 2", () -> x.isMutiny(2));
        Check.dueIndex("ship -1", () -> x.isMutiny(-1));
    }

    private static void mutinyInARow() {
        GalleonWave x = Scene.sea();
        x.addShip(0, 0);
        x.addPerson(0, 'e');
        x.addPerson(0, 'e');
        x.addPerson(0, 'e');
        x.pass(30);
        Check.due("nobody is hungry", x.isMutiny(0), false);
        Scene.board(x, 0, 0);
        x.pass(23);
        Check.due("23 hours", x.isMutiny(0), false);
        Scene.supply(x, 0, 0, 1, -1);
        x.pass(24);
        Check.due("an hour with food is no hour of those", x.isMutiny(0), false);
        x.pass(1);
        Check.due("24 after that", x.isMutiny(0), true);
        Scene.board(x, 0, 1);
        Scene.board(x, 0, 2);
        Scene.supply(x, 0, 0, 2, -1);
        Check.due("after tenders", x.isMutiny(0), false);
        GalleonWave y = Scene.sea();
        y.addShip(0, 0);
        y.addPerson(0, 'e');
        y.addPerson(0, 'e');
        Scene.board(y, 0, 0);
        Scene.board(y, 0, 1);
        y.pass(23);
        Scene.supply(y, 0, 0, 1, -1);
        y.pass(1);
        Check.due("food for one of two is too little", y.isMutiny(0), true);
        GalleonWave z = Scene.sea();
        z.addShip(0, 0);
        z.addPerson(0, 'e');
        z.addPerson(0, 'e');
        Scene.supply(z, 0, 0, 316, -1);
        Scene.board(z, 0, 0);
        Scene.passLong(z, 336);
        z.send(0, 0, true);
        z.pass(1);
        Scene.board(z, 0, 1);
        z.pass(4);
        Check.due("20 and 4, but an hour between without anybody", z.isMutiny(0), false);
        z.pass(19);
        Check.due("23", z.isMutiny(0), false);
        z.pass(1);
        Check.due("24", z.isMutiny(0), true);
    }

    /** A tender ends a mutiny; without food the hours behind one another still are 24 and more an hour later. */
    private static void mutinyAfterTender() {
        GalleonWave x = Scene.sea();
        Scene.addStation(x, 0, 0, 4, 5);
        Scene.passLong(x, 999);
        Scene.supply(x, 0, 9999, 0, -1);
        x.pass(20);
        x.send(0, 0, false);
        x.pass(4);
        Check.due("a tender without food in between", x.isMutiny(0), true);
        x.send(0, 0, false);
        Check.due("a tender comes", x.isMutiny(0), false);
        x.pass(1);
        Check.due("on the air in that hour", x.isOnAir(0), true);
        Check.due("hungry as before", x.isMutiny(0), true);
    }
}
