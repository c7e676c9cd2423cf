import java.util.NoSuchElementException;

/** Sentences of the Terms about the chronicle, recordings and datings: each on both sides of its boundary. */
public final class TermsOfChronicleTest {
    public static void main(String[] args) {
        lastTwoHundred();
        lastOverAll();
        farOverTwoHundred();
        onlyOnTheAir();
        sixRecordings();
        knownOrNot();
        generatorBits();
        whoSpoke();
        noTwoTheSame();
        ofOneHour();
        anEarlierHour();
        aheadOverOthers();
        asManyAsHours();
        otherRecordingsCount();
        datesForget();
        nightShare();
        meanCrew();
        checksums();
        soundWithAll();
        Check.end("TermsOfChronicleTest");
    }

    /** A sea on which so many ships, on channels 0, 1, .. are on the air; each has fuel for 400 hours and more. */
    private static GalleonWave sending(int ships) {
        GalleonWave x = Scene.sea();
        for (int i = 0; i < ships; i++) {
            x.addShip(300 * i, 0);
            x.anchor(i, 's');
            x.addGenerator(i, 2, 9999);
            x.setGenerator(i, 0, true);
            int person = x.addPerson(0, 'd');
            Scene.supply(x, i, 9999, 999, i);
            Scene.board(x, i, person);
            x.setPower(i, 1);
        }
        return x;
    }

    /** "the last 200 over all, is kept": 199, 200, and none more. */
    private static void lastTwoHundred() {
        GalleonWave x = sending(1);
        x.addRecording(-1, -1, -1);
        x.pass(96);
        x.pass(96);
        for (int hour = 193; hour <= 205; hour++) {
            x.pass(1);
            int kept = Math.min(200, hour);
            Check.due("kept behind " + hour, x.getKept(), kept);
            Check.due("choices behind " + hour, x.getChoices(0), kept);
            Check.due("the earliest behind " + hour, x.getDate(0, false), hour - kept);
            Check.due("the latest behind " + hour, x.getDate(0, true), hour - 1);
        }
    }

    /** Over all ships, not 200 of each: the hour that is gone first is that of the lowest ship. */
    private static void lastOverAll() {
        GalleonWave x = sending(3);
        for (int i = 0; i < 3; i++) {
            x.addRecording(i, -1, -1);
        }
        x.pass(66);
        Check.due("3 times 66", x.getKept(), 198);
        x.pass(1);
        Check.due("201 are too many", x.getKept(), 200);
        int[] earliest = {1, 0, 0};
        for (int i = 0; i < 3; i++) {
            Check.due("choices of " + i, x.getChoices(i), i == 0 ? 66 : 67);
            Check.due("the earliest of " + i, x.getDate(i, false), earliest[i]);
            Check.due("the latest of " + i, x.getDate(i, true), 66);
        }
        x.setPower(0, 0);
        x.setPower(1, 0);
        x.pass(1);
        Check.due("one more, one less", x.getChoices(1), 66);
        Check.due("of ship 2 they are more", x.getChoices(2), 68);
        Check.due("200 still", x.getKept(), 200);
    }

    /** Several times around: what is kept is always the last of it. */
    private static void farOverTwoHundred() {
        GalleonWave x = sending(4);
        x.addRecording(3, -1, -1);
        x.addRecording(-1, -1, -1);
        int hour = 0;
        for (int i = 0; i < 9; i++) {
            hour = x.pass(37 + i);
            int kept = Math.min(200, 4 * hour);
            Check.due("kept behind " + hour, x.getKept(), kept);
            Check.due("of ship 3", x.getChoices(0), kept / 4);
            Check.due("the earliest", x.getDate(1, false), hour - kept / 4);
            Check.due("the latest", x.getDate(0, true), hour - 1);
        }
        x.setPower(0, 0);
        x.setPower(1, 0);
        x.setPower(2, 0);
        x.setPower(3, 0);
        x.pass(96);
        Check.due("nothing goes where nothing comes", x.getKept(), 200);
        Check.due("the latest stays", x.getDate(0, true), hour - 1);
    }

    /** "Of each hour in which a ship was on the air" */
    private static void onlyOnTheAir() {
        GalleonWave x = sending(2);
        int kept = 0;
        for (int bits = 0; bits < 4; bits++) {
            x.setPower(0, bits % 2);
            x.setPower(1, bits / 2);
            x.pass(1);
            kept += Integer.bitCount(bits);
            Check.due("kept with " + bits, x.getKept(), kept);
        }
    }

    /** "At most 6 recordings are told" */
    private static void sixRecordings() {
        GalleonWave x = sending(1);
        x.pass(6);
        for (int i = 0; i < 6; i++) {
            Check.due("number", x.addRecording(-1, -1, -1), i);
            Check.due("can be dated", x.getDate(i, true), 5);
        }
        Check.dueState("a seventh", () -> x.addRecording(-1, -1, -1));
        Check.dueIndex("it is not there", () -> x.getChoices(6));
        Check.due("six of six hours", x.getDate(5, false), 0);
    }

    /** "each of these also as -1 for not known" and "like it in all that is known" */
    private static void knownOrNot() {
        for (int known = 0; known < 8; known++) {
            for (int like = 0; like < 8; like++) {
                GalleonWave x = sending(1);
                x.plan(0, 0, 150);
                x.pass(1);
                int channel = known % 2 == 0 ? -1 : like % 2;
                int generators = known / 2 % 2 == 0 ? -1 : like / 2 % 2 == 0 ? 1 : 3;
                int who = known / 4 == 0 ? -1 : like / 4 == 0 ? 150 : 151;
                x.addRecording(channel, generators, who);
                boolean isLike = (known & like) == 0;
                Check.due("choices of " + known + ", " + like, x.getChoices(0), isLike ? 1 : 0);
                if (isLike) {
                    Check.due("date of " + known + ", " + like, x.getDate(0, false), 0);
                } else {
                    Check.dueThrow("no date", NoSuchElementException.class, () -> x.getDate(0, false));
                }
            }
        }
    }

    /** "the generators that ran as bits, 1 and 2": those that ran, not those that are on. */
    private static void generatorBits() {
        for (int bits = 0; bits < 4; bits++) {
            GalleonWave x = sending(1);
            x.addGenerator(0, 2, 1);
            x.setGenerator(0, 0, bits % 2 == 1);
            x.setGenerator(0, 1, bits / 2 == 1);
            x.pass(1);
            for (int told = 0; told < 4; told++) {
                x.addRecording(-1, told, -1);
                Check.due(told + " of " + bits, x.getChoices(told), bits != 0 && told == bits ? 1 : 0);
            }
            x.setGenerator(0, 0, true);
            x.setGenerator(0, 1, true);
            int before = x.getChoices(1);
            x.pass(1);
            boolean isOver = bits / 2 == 1;
            Check.due("0 alone, as the life of 1 is over", x.getChoices(1) - before, isOver ? 1 : 0);
            Check.due("both", x.getChoices(3), bits == 3 || !isOver ? 1 : 0);
        }
    }

    /** "and who spoke, or what ran" */
    private static void whoSpoke() {
        GalleonWave x = sending(1);
        x.plan(0, 1, 100);
        x.plan(0, 2, 199);
        x.plan(0, 0, 0);
        x.pass(3);
        x.plan(0, 23, 0);
        x.pass(1);
        int[] whos = {0, 100, 199, 200, 101, -1};
        int[] due = {1, 1, 2, 0, 0, 4};
        for (int i = 0; i < 6; i++) {
            x.addRecording(-1, -1, whos[i]);
            Check.due("choices of " + whos[i], x.getChoices(i), due[i]);
        }
    }

    /** "A dating gives each recording such an hour of one ship, no two the same hour of the same ship" */
    private static void noTwoTheSame() {
        for (int hours = 1; hours <= 3; hours++) {
            for (int told = 1; told <= 4; told++) {
                GalleonWave x = sending(1);
                x.pass(hours);
                for (int i = 0; i < told; i++) {
                    x.addRecording(0, 1, 0);
                }
                if (told <= hours) {
                    Check.due(told + " of " + hours, x.getDate(told - 1, false), 0);
                    Check.due(told + " of " + hours, x.getDate(0, true), hours - 1);
                } else {
                    Check.dueThrow(told + " of " + hours, NoSuchElementException.class, () -> x.getDate(0, false));
                    Check.due("each can be of all", x.getChoices(told - 1), hours);
                }
            }
        }
    }

    /** The same hour of two ships is two: as many recordings as ships are of one hour. */
    private static void ofOneHour() {
        for (int ships = 1; ships <= 4; ships++) {
            GalleonWave x = sending(ships);
            x.pass(1);
            for (int i = 0; i < ships; i++) {
                x.addRecording(-1, -1, -1);
                Check.due(i + " of " + ships, x.getDate(i, true), 0);
            }
            x.addRecording(-1, -1, -1);
            Check.dueThrow("one more than " + ships, NoSuchElementException.class, () -> x.getDate(0, true));
            x.pass(1);
            Check.due("two hours are enough", x.getDate(ships, false), 0);
            Check.due("two hours are enough", x.getDate(ships, true), 1);
        }
    }

    /** "and all that are told to be ahead an earlier hour": the same hour of another ship is not earlier. */
    private static void anEarlierHour() {
        GalleonWave x = sending(2);
        x.pass(1);
        x.addRecording(0, -1, -1);
        x.addRecording(1, -1, -1);
        Check.due("both of hour 0", x.getDate(1, true), 0);
        x.addAhead(0, 1);
        Check.dueThrow("one ahead", NoSuchElementException.class, () -> x.getDate(1, true));
        x.pass(1);
        Check.due("the one ahead", x.getDate(0, true), 0);
        Check.due("the other one", x.getDate(1, false), 1);
        GalleonWave y = sending(2);
        y.pass(1);
        y.addRecording(1, -1, -1);
        y.addRecording(0, -1, -1);
        y.addAhead(1, 0);
        Check.dueThrow("a lower ship is not earlier", NoSuchElementException.class, () -> y.getDate(0, true));
        y.setPower(0, 0);
        y.pass(1);
        Check.due("the lower ship", y.getDate(1, true), 0);
        Check.due("an hour later", y.getDate(0, false), 1);
    }

    private static void aheadOverOthers() {
        for (int hours = 5; hours <= 8; hours++) {
            GalleonWave x = sending(4);
            x.pass(hours);
            for (int i = 0; i < 6; i++) {
                x.addRecording(-1, -1, -1);
            }
            int[] row = {5, 2, 4, 0, 3, 1};
            for (int i = 0; i < 5; i++) {
                Check.due("told", x.addAhead(row[i], row[i + 1]), i + 1);
            }
            for (int i = 0; i < 6; i++) {
                int recording = row[i];
                if (hours < 6) {
                    Check.dueThrow("six of five hours", NoSuchElementException.class, () -> x.getDate(recording, true));
                } else {
                    Check.due("number " + i + " at the earliest", x.getDate(recording, false), i);
                    Check.due("number " + i + " at the latest", x.getDate(recording, true), hours - 6 + i);
                }
            }
        }
    }

    private static void asManyAsHours() {
        GalleonWave x = sending(1);
        x.plan(0, 1, 110);
        x.plan(0, 4, 110);
        x.plan(0, 6, 110);
        x.pass(8);
        x.addRecording(-1, -1, 110);
        x.addRecording(0, -1, -1);
        x.addRecording(-1, -1, 110);
        x.addAhead(0, 1);
        x.addAhead(1, 2);
        Check.due("0 at the earliest", x.getDate(0, false), 1);
        Check.due("0 at the latest", x.getDate(0, true), 4);
        Check.due("1 at the earliest", x.getDate(1, false), 2);
        Check.due("1 at the latest", x.getDate(1, true), 5);
        Check.due("2 at the earliest", x.getDate(2, false), 4);
        Check.due("2 at the latest", x.getDate(2, true), 6);
    }

    /** What one recording takes, another one that can be of nothing else does not get. */
    private static void otherRecordingsCount() {
        GalleonWave x = sending(1);
        x.plan(0, 2, 110);
        x.pass(4);
        x.addRecording(-1, -1, -1);
        Check.due("alone at the latest", x.getDate(0, true), 3);
        x.addRecording(-1, -1, 110);
        x.addAhead(0, 1);
        Check.due("ahead of hour 2", x.getDate(0, true), 1);
        x.addRecording(-1, -1, 110);
        Check.dueThrow("two of hour 2", NoSuchElementException.class, () -> x.getDate(0, false));
        Check.dueThrow("two of hour 2", NoSuchElementException.class, () -> x.getDate(2, false));
        Check.due("others aside", x.getChoices(2), 1);
        Check.due("others aside", x.getChoices(0), 4);
        x.pass(23);
        Check.due("hour 26 too", x.getDate(0, true), 25);
    }

    /** With an hour that is not kept any more, a dating can be gone. */
    private static void datesForget() {
        GalleonWave x = sending(1);
        x.plan(0, 0, 0);
        x.plan(0, 1, -1);
        x.plan(0, 2, 110);
        x.pass(3);
        x.plan(0, 2, -1);
        for (int hour = 0; hour < 24; hour++) {
            x.plan(0, hour, 0);
        }
        x.addRecording(-1, -1, 110);
        x.pass(96);
        x.pass(96);
        x.pass(7);
        Check.due("hour 2 is the oldest", x.getDate(0, false), 2);
        x.pass(1);
        Check.due("no choices", x.getChoices(0), 0);
        Check.dueThrow("hour 2 is gone", NoSuchElementException.class, () -> x.getDate(0, false));
    }

    /** "the share of kept hours that are by night": of those kept, so that it forgets too. */
    private static void nightShare() {
        GalleonWave x = sending(2);
        Check.dueThrow("none kept", ArithmeticException.class, x::getNightShare);
        x.pass(6);
        Check.dueReal("hours 0 to 5", x.getNightShare(), 1f);
        x.setPower(1, 0);
        x.pass(1);
        Check.dueReal("and hour 6, once", x.getNightShare(), 12f / 13f);
        x.pass(11);
        Check.dueReal("to hour 17", x.getNightShare(), 12f / 24f);
        x.pass(1);
        Check.dueReal("and hour 18", x.getNightShare(), 13f / 25f);
        x.setPower(0, 0);
        x.pass(24);
        Check.dueReal("nothing more is kept", x.getNightShare(), 13f / 25f);
        GalleonWave day = sending(1);
        day.setPower(0, 0);
        day.pass(6);
        day.setPower(0, 1);
        day.pass(1);
        Check.dueReal("hour 6 alone", day.getNightShare(), 0f);
        GalleonWave full = sending(1);
        full.pass(96);
        full.pass(96);
        full.pass(12);
        Check.dueReal("hours 4 to 203", full.getNightShare(), 98f / 200f);
        full.pass(2);
        Check.dueReal("hours 6 to 205", full.getNightShare(), 96f / 200f);
    }

    /** "Returns their number divided by that of ships": who is ashore is not counted, ships without people are. */
    private static void meanCrew() {
        for (int ships = 1; ships <= 4; ships++) {
            GalleonWave x = Scene.sea();
            for (int i = 0; i < 12; i++) {
                x.addPerson(0, 'e');
            }
            Check.dueThrow("no ships", ArithmeticException.class, x::getMeanCrew);
            for (int i = 0; i < ships; i++) {
                x.addShip(i, 0);
            }
            for (int i = 0; i < 12; i++) {
                Check.dueReal(i + " on " + ships, x.getMeanCrew(), (double) i / (double) ships);
                Scene.board(x, i * 5 % ships, i);
            }
            Check.dueReal("12 on " + ships, x.getMeanCrew(), 12.0 / ships);
        }
    }

    /** "7 at first, then for each ship .., then 31 times itself plus the money, then 31 times itself plus the hour" */
    private static void checksums() {
        GalleonWave x = new GalleonWave();
        Check.due("7 at first", x.checksum(), 7 * 31 * 31);
        x.pass(1);
        Check.due("the hour", x.checksum(), 7 * 31 * 31 + 1);
        GalleonWave full = Scene.full();
        long sum = 7;
        for (int i = 0; i < 4; i++) {
            sum = sum * 31 + full.getPlace(i, true);
            sum = sum * 31 + full.getPlace(i, false);
            sum = sum * 31 + full.getFuel(i);
            sum = sum * 31 + full.getChannel(i);
            sum = sum * 31 + full.getEarned(i);
        }
        sum = sum * 31 + full.getMoney();
        sum = sum * 31 + 9;
        Check.due("of four ships, wrapped around", full.checksum(), sum);
        Check.due("asked twice", full.checksum(), sum);
    }

    /** Each channel, the least generators that are enough, each way of filling an hour, and up to six recordings. */
    private static void soundWithAll() {
        for (int channel = 0; channel <= 9; channel++) {
            GalleonWave x = sending(1);
            Scene.supply(x, 0, 0, 0, channel);
            x.plan(0, 1, 100);
            x.plan(0, 2, 199);
            x.pass(3);
            x.plan(0, 23, 0);
            x.pass(2);
            Check.due("on channel " + channel, x.isSound(), true);
            for (int i = 0; i < 6; i++) {
                x.addRecording(i % 2 == 0 ? channel : -1, -1, i == 4 ? 199 : -1);
                Check.due("with recordings up to " + i, x.isSound(), true);
            }
            x.addAhead(5, 0);
            x.addAhead(0, 3);
            Check.due("with two told", x.isSound(), true);
        }
        GalleonWave two = Scene.sea();
        two.addShip(0, 0);
        two.addPerson(0, 'e');
        two.addGenerator(0, 1, 9);
        two.addGenerator(0, 1, 9);
        two.setGenerator(0, 0, true);
        two.setGenerator(0, 1, true);
        Scene.supply(two, 0, 99, 9, 9);
        Scene.board(two, 0, 0);
        two.setPower(0, 1);
        two.pass(1);
        Check.due("1 of 1 and 1", two.isOnAir(0), true);
        Check.due("sound", two.isSound(), true);
        Check.due("sound when full", Scene.full().isSound(), true);
    }
}
