/** Promises 1 to 8: a new object, lands, acts, wind, tide, towns and passing hours. */
public final class LandsTest {
    public static void main(String[] args) {
        newObject();
        addLand();
        addAct();
        newestActCounts();
        actHours();
        setWind();
        setTide();
        addTown();
        pass();
        Check.end("LandsTest");
    }

    private static void newObject() {
        GalleonWave x = new GalleonWave();
        Check.due("new money", x.getMoney(), 0);
        Check.due("new kept", x.getKept(), 0);
        Check.due("new checksum", x.checksum(), 6727);
        Check.due("new isSound", x.isSound(), true);
        Check.dueIndex("new getLine", () -> x.getLine(0));
        Check.dueIndex("new getFuel", () -> x.getFuel(0));
        Check.dueIndex("new getHeard", () -> x.getHeard(0));
        Check.dueIndex("new getAboard", () -> x.getAboard(0));
        Check.dueIndex("new getChoices", () -> x.getChoices(0));
        Check.due("new ship", x.addShip(7, -8), 0);
        Check.due("hour of a calm", x.pass(1), 1);
        Check.due("east in a calm", x.getPlace(0, true), 7);
        Check.due("north in a calm", x.getPlace(0, false), -8);
        Check.due("force of the calm", x.setWind(3, 'e'), 0);
    }

    private static void addLand() {
        GalleonWave x = new GalleonWave();
        Check.dueArgument("east 1000", () -> x.addLand(1000, 0, 5));
        Check.dueArgument("east -1000", () -> x.addLand(-1000, 0, 5));
        Check.dueArgument("north 1000", () -> x.addLand(0, 1000, 5));
        Check.dueArgument("north -1000", () -> x.addLand(0, -1000, 5));
        Check.dueArgument("shallows 0", () -> x.addLand(0, 0, 0));
        Check.dueArgument("shallows 51", () -> x.addLand(0, 0, 51));
        Check.due("land 0", x.addLand(999, 999, 50), 0);
        Check.due("land 1", x.addLand(-999, -999, 1), 1);
        Check.due("land 2", x.addLand(0, 0, 5), 2);
        Check.due("land 3", x.addLand(0, 0, 5), 3);
        Check.dueArgument("the first exception", () -> x.addLand(0, 0, 0));
        Check.dueState("a fifth land", () -> x.addLand(0, 0, 5));
        Check.due("its first line", x.getLine(3), 30);
        Check.dueIndex("getLine 4", () -> x.getLine(4));
        Check.dueIndex("getLine -1", () -> x.getLine(-1));
    }

    private static void addAct() {
        GalleonWave x = new GalleonWave();
        Check.dueIndex("no land", () -> x.addAct(0, 0, 40, 0));
        x.addLand(0, 0, 5);
        Check.dueIndex("no such land first", () -> x.addAct(1, -1, 40, 0));
        Check.dueIndex("land -1", () -> x.addAct(-1, 0, 40, 0));
        Check.dueArgument("hour -1", () -> x.addAct(0, -1, 40, 0));
        Check.dueArgument("hour 100000", () -> x.addAct(0, 100000, 40, 0));
        Check.dueArgument("line -1", () -> x.addAct(0, 0, -1, 0));
        Check.dueArgument("line 301", () -> x.addAct(0, 0, 301, 0));
        Check.dueArgument("forbidden -1", () -> x.addAct(0, 0, 40, -1));
        Check.dueArgument("forbidden 8", () -> x.addAct(0, 0, 40, 8));
        Check.due("none of these holds", x.getLine(0), 30);
        Check.due("act 1", x.addAct(0, 0, 300, 7), 1);
        Check.due("line 300", x.getLine(0), 300);
        Check.due("act 2", x.addAct(0, 0, 0, 0), 2);
        Check.due("line 0", x.getLine(0), 0);
        for (int i = 3; i <= 8; i++) {
            Check.due("act " + i, x.addAct(0, 99999, 200, 0), i);
        }
        Check.dueArgument("the first exception", () -> x.addAct(0, 0, 301, 0));
        Check.dueState("a ninth act", () -> x.addAct(0, 0, 40, 0));
        Check.due("line still 0", x.getLine(0), 0);
        x.addLand(0, 0, 5);
        Check.due("another land has its own", x.addAct(1, 0, 40, 0), 1);
        Check.due("its line", x.getLine(1), 40);
    }

    private static void newestActCounts() {
        GalleonWave x = new GalleonWave();
        x.addLand(0, 0, 5);
        x.addAct(0, 5, 60, 0);
        x.addAct(0, 3, 70, 0);
        x.addAct(0, 5, 80, 0);
        x.addAct(0, 4, 90, 0);
        int[] lines = {30, 30, 30, 70, 90, 80, 80};
        for (int hour = 0; hour < lines.length; hour++) {
            Check.due("line at hour " + hour, x.getLine(0), lines[hour]);
            x.pass(1);
        }
    }

    private static void actHours() {
        GalleonWave x = new GalleonWave();
        x.addLand(0, 0, 5);
        x.pass(7);
        Check.dueArgument("an hour that is over", () -> x.addAct(0, 6, 40, 0));
        Check.due("this hour", x.addAct(0, 7, 40, 0), 1);
        Check.due("it holds at once", x.getLine(0), 40);
        Check.due("the next hour", x.addAct(0, 8, 50, 0), 2);
        Check.due("not yet", x.getLine(0), 40);
        x.pass(1);
        Check.due("now", x.getLine(0), 50);
    }

    private static void setWind() {
        GalleonWave x = new GalleonWave();
        Check.dueArgument("force -1", () -> x.setWind(-1, 'n'));
        Check.dueArgument("force 13", () -> x.setWind(13, 'n'));
        Check.dueArgument("no such way", () -> x.setWind(3, 'N'));
        Check.dueArgument("way 0", () -> x.setWind(3, (char) 0));
        Check.due("before 12", x.setWind(12, 'n'), 0);
        Check.due("before 0", x.setWind(0, 's'), 12);
        Check.due("before 10", x.setWind(10, 'e'), 0);
        Check.dueArgument("wrong after that", () -> x.setWind(4, 'x'));
        x.addShip(0, 0);
        x.pass(1);
        Check.due("toward the east", x.getPlace(0, true), 5);
        Check.due("before 11", x.setWind(11, 'n'), 10);
        x.pass(1);
        Check.due("toward the north", x.getPlace(0, false), 5);
        x.setWind(6, 's');
        x.pass(1);
        Check.due("toward the south", x.getPlace(0, false), 2);
        x.setWind(4, 'w');
        x.pass(1);
        Check.due("toward the west", x.getPlace(0, true), 3);
        Check.due("no more to the north", x.getPlace(0, false), 2);
    }

    private static void setTide() {
        GalleonWave x = new GalleonWave();
        Check.dueArgument("east -4", () -> x.setTide(-4, 0));
        Check.dueArgument("east 4", () -> x.setTide(4, 0));
        Check.dueArgument("north -4", () -> x.setTide(0, -4));
        Check.dueArgument("north 4", () -> x.setTide(0, 4));
        Check.due("before 3", x.setTide(3, -3), 0);
        Check.due("before -3", x.setTide(-3, 3), 3);
        Check.dueArgument("wrong after that", () -> x.setTide(1, 9));
        Check.due("before 2", x.setTide(2, -1), -3);
        x.addShip(0, 0);
        int[] east = {2, 10, 12, 10, 2, 0, 2, 10, 12, 10, 0, 2};
        int[] hours = {1, 5, 6, 7, 11, 12, 13, 17, 18, 19, 24, 25};
        for (int i = 0; i < hours.length; i++) {
            x.pass(hours[i] - (i == 0 ? 0 : hours[i - 1]));
            Check.due("east at hour " + hours[i], x.getPlace(0, true), east[i]);
            Check.due("north at hour " + hours[i], x.getPlace(0, false), -east[i] / 2);
        }
        Check.due("what was told, in any hour", x.setTide(0, 0), 2);
        x.pass(6);
        Check.due("what was told, when it goes the other way", x.setTide(1, 1), 0);
        Check.due("what was told then", x.setTide(0, 0), 1);
    }

    private static void addTown() {
        GalleonWave x = new GalleonWave();
        Check.dueIndex("no land", () -> x.addTown(0, 0, 0, 5));
        x.addLand(0, 0, 5);
        Check.dueIndex("no such land first", () -> x.addTown(1, 1000, 0, 0));
        Check.dueIndex("land -1", () -> x.addTown(-1, 0, 0, 5));
        Check.dueArgument("east 1000", () -> x.addTown(0, 1000, 0, 5));
        Check.dueArgument("east -1000", () -> x.addTown(0, -1000, 0, 5));
        Check.dueArgument("north 1000", () -> x.addTown(0, 0, 1000, 5));
        Check.dueArgument("north -1000", () -> x.addTown(0, 0, -1000, 5));
        Check.dueArgument("thousands 0", () -> x.addTown(0, 0, 0, 0));
        Check.dueArgument("thousands 1000", () -> x.addTown(0, 0, 0, 1000));
        Check.due("town 0", x.addTown(0, 999, -999, 1), 0);
        Check.due("town 1", x.addTown(0, -999, 999, 999), 1);
        for (int i = 2; i < 6; i++) {
            Check.due("town " + i, x.addTown(0, 0, 0, 10), i);
        }
        Check.dueArgument("the first exception", () -> x.addTown(0, 0, 0, 0));
        Check.dueState("a seventh town", () -> x.addTown(0, 0, 0, 10));
        Check.due("heard there", x.getHeard(5), -1);
        Check.dueIndex("no seventh", () -> x.getHeard(6));
    }

    private static void pass() {
        GalleonWave x = new GalleonWave();
        Check.dueArgument("0 hours", () -> x.pass(0));
        Check.dueArgument("-1 hours", () -> x.pass(-1));
        Check.dueArgument("97 hours", () -> x.pass(97));
        Check.due("checksum at hour 0", x.checksum(), 6727);
        Check.due("1 hour", x.pass(1), 1);
        Check.due("96 hours", x.pass(96), 97);
        Check.due("checksum at hour 97", x.checksum(), 6727 + 97);
    }
}
