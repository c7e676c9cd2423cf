/** Reads all that can be read of a sea, and what shows only later, so that two seas can be compared. */
final class Probe {
    private interface Asked {
        Object ask();
    }

    private final GalleonWave x;
    private final StringBuilder text = new StringBuilder();

    private Probe(GalleonWave x) {
        this.x = x;
    }

    /** Spends the sea: some 300 calls, after which it is another one. */
    static String transcript(GalleonWave x) {
        Probe probe = new Probe(x);
        probe.readAll();
        probe.readHidden();
        probe.readLater();
        return probe.text.toString();
    }

    private void add(String what, Asked asked) {
        String answer;
        try {
            answer = "" + asked.ask();
        } catch (RuntimeException e) {
            answer = e.getClass().getSimpleName();
        }
        text.append(what).append('=').append(answer).append('\n');
    }

    private void readAll() {
        add("money", x::getMoney);
        add("kept", x::getKept);
        add("nights", x::getNightShare);
        add("crew", x::getMeanCrew);
        add("checksum", x::checksum);
        add("sound", x::isSound);
        for (int i = 0; i < 4; i++) {
            int n = i;
            add("line " + n, () -> x.getLine(n));
            add("evidence " + n, () -> x.getEvidence(n));
            add("inside " + n, () -> x.getInside(n));
            add("aground " + n, () -> x.isAground(n));
            add("food " + n, () -> x.getFood(n));
            add("salt " + n, () -> x.getSalt(n));
            add("on air " + n, () -> x.isOnAir(n));
            add("listeners " + n, () -> x.getListeners(n));
            add("speaker " + n, () -> x.getSpeaker(n));
            add("mutiny " + n, () -> x.isMutiny(n));
        }
        readShips();
        for (int i = 0; i < 12; i++) {
            int n = i;
            add("aboard " + n, () -> x.getAboard(n));
            add("tired " + n, () -> x.isTired(n));
        }
        for (int i = 0; i < 6; i++) {
            int n = i;
            add("heard " + n, () -> x.getHeard(n));
            add("signal at " + n, () -> x.getSignal(0, n));
            add("choices " + n, () -> x.getChoices(n));
            add("earliest " + n, () -> x.getDate(n, false));
            add("latest " + n, () -> x.getDate(n, true));
        }
    }

    private void readShips() {
        for (int i = 0; i < 4; i++) {
            int n = i;
            add("east " + n, () -> x.getPlace(n, true));
            add("north " + n, () -> x.getPlace(n, false));
            add("fuel " + n, () -> x.getFuel(n));
            add("channel " + n, () -> x.getChannel(n));
            add("earned " + n, () -> x.getEarned(n));
        }
    }

    /** What only a call that changes something tells: it must do so in the same way. */
    private void readHidden() {
        add("an hour", () -> x.pass(1));
        readShips();
        add("wind", () -> x.setWind(3, 'e'));
        add("tide", () -> x.setTide(0, 0));
        for (int i = 0; i < 4; i++) {
            int n = i;
            add("power " + n, () -> x.setPower(n, 7));
            add("generator 0 of " + n, () -> x.setGenerator(n, 0, true));
            add("generator 1 of " + n, () -> x.setGenerator(n, 1, true));
            add("spots " + n, () -> x.sell(n, 1));
            add("anchor " + n, () -> x.weigh(n));
            add("loaded " + n, () -> x.load(n, 0, 0, -1));
            add("sent " + n, () -> x.send(n, n, false));
            add("told 5 ahead of " + n, () -> x.addAhead(5, n));
        }
        for (int i = 0; i < 12; i++) {
            int n = i;
            add("aboard then " + n, () -> x.getAboard(n));
        }
        for (int i = 0; i < 24; i++) {
            int n = i;
            add("plan " + n, () -> x.plan(0, n, -1));
        }
        // Who is planned in another hour does not stand in, so that a tape shows.
        add("plan of 0 in another hour", () -> x.plan(0, 20, 0));
        add("plan of 1", () -> x.plan(1, 0, -1));
    }

    private void readLater() {
        add("a day", () -> x.pass(24));
        add("the tape planned last", () -> x.getSpeaker(0));
        readShips();
        add("pulled off", () -> x.pullOff(3));
        add("hours", () -> x.pass(40));
        for (int i = 0; i < 4; i++) {
            int n = i;
            add("line then " + n, () -> x.getLine(n));
            add("evidence then " + n, () -> x.getEvidence(n));
            add("mutiny then " + n, () -> x.isMutiny(n));
        }
        readShips();
        add("checksum then", x::checksum);
    }
}
