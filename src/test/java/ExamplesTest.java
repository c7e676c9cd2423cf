/** The four examples of the document's Terms. */
public final class ExamplesTest {
    public static void main(String[] args) {
        dragAndDrift();
        nightHourHeard();
        forbiddenSupply();
        twoRecordings();
        Check.end("ExamplesTest");
    }

    private static void dragAndDrift() {
        GalleonWave x = new GalleonWave();
        Check.due("addLand", x.addLand(0, 0, 5), 0);
        Check.due("addShip", x.addShip(100, 0), 0);
        Check.due("anchor", x.anchor(0, 'm'), 6);
        Check.due("setWind", x.setWind(9, 'w'), 0);
        Check.due("pass", x.pass(4), 4);
        Check.due("getPlace", x.getPlace(0, true), 88);
        Check.due("weigh", x.weigh(0), 4);
        Check.due("pass", x.pass(4), 8);
        Check.due("getPlace", x.getPlace(0, true), 72);
    }

    private static void nightHourHeard() {
        GalleonWave x = new GalleonWave();
        Check.due("addLand", x.addLand(500, 0, 5), 0);
        Check.due("addTown", x.addTown(0, 0, 40, 100), 0);
        Check.due("addShip", x.addShip(0, 0), 0);
        Check.due("addGenerator", x.addGenerator(0, 20, 99), 0);
        Check.due("setGenerator", x.setGenerator(0, 0, true), 0);
        Check.due("addPerson", x.addPerson(0, 'd'), 0);
        Check.due("load", x.load(0, 200, 50, 7), 300);
        Check.due("book", x.book(0, 0, true), 1);
        Check.due("send", x.send(0, 0, false), -300);
        Check.due("setPower", x.setPower(0, 19), 0);
        Check.due("sell", x.sell(0, 2), 2);
        Check.due("pass", x.pass(1), 1);
        Check.due("isOnAir", x.isOnAir(0), true);
        Check.due("getSpeaker", x.getSpeaker(0), 0);
        Check.due("getHeard", x.getHeard(0), 0);
        Check.due("getEarned", x.getEarned(0), 10);
    }

    private static void forbiddenSupply() {
        GalleonWave x = new GalleonWave();
        Check.due("addLand", x.addLand(0, 0, 5), 0);
        Check.due("addAct", x.addAct(0, 0, 50, 1), 1);
        Check.due("addShip", x.addShip(80, 0), 0);
        Check.due("load", x.load(0, 10, 10, -1), 70);
        Check.due("send", x.send(0, 0, false), -70);
        Check.due("getEvidence", x.getEvidence(0), 1);
        Check.due("send", x.send(0, 0, false), -120);
        Check.due("send", x.send(0, 0, false), -170);
        Check.due("getEvidence", x.getEvidence(0), 3);
        Check.dueUnsupported("raid", () -> x.raid(0, 0));
    }

    private static void twoRecordings() {
        GalleonWave x = new GalleonWave();
        Check.due("addLand", x.addLand(500, 500, 5), 0);
        Check.due("addShip", x.addShip(0, 0), 0);
        Check.due("anchor", x.anchor(0, 's'), 8);
        Check.due("addGenerator", x.addGenerator(0, 10, 999), 0);
        Check.due("setGenerator", x.setGenerator(0, 0, true), 0);
        Check.due("addPerson", x.addPerson(0, 'd'), 0);
        Check.due("load", x.load(0, 900, 300, 3), 1250);
        Check.due("book", x.book(0, 0, true), 1);
        Check.due("send", x.send(0, 0, false), -1250);
        Check.due("setPower", x.setPower(0, 5), 0);
        Check.due("plan", x.plan(0, 2, 110), -1);
        Check.due("pass", x.pass(4), 4);
        Check.due("addRecording", x.addRecording(3, -1, -1), 0);
        Check.due("addRecording", x.addRecording(-1, -1, 110), 1);
        Check.due("addAhead", x.addAhead(1, 0), 1);
        Check.due("getDate", x.getDate(0, false), 3);
    }
}
