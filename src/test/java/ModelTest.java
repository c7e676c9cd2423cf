import java.lang.reflect.InvocationTargetException;
import java.lang.reflect.Method;
import java.util.ArrayList;
import java.util.List;
import java.util.Random;

/** All promises on random runs of up to 512 calls: each answer is compared with that of the naive Model. */
public final class ModelTest {
    private static final int RUNS = 600;
    private static final int CALLS = 505;
    private static final String[] ACTS = {
        "addLand", "addAct", "setWind", "setTide", "addTown", "addShip", "anchor", "weigh", "pullOff", "addGenerator",
        "setGenerator", "wash", "setPower", "addPerson", "load", "book", "send", "plan", "sell", "bank", "raid",
        "board", "addRecording", "addAhead", "load", "book", "send", "plan", "setPower", "setGenerator"
    };
    /** What takes ships off the air, or away from one another, and is rare in all runs but the wild ones. */
    private static final List<String> SPOILS = List.of("raid", "weigh", "setWind", "setGenerator", "setPower", "addLand");
    private static final String[] ASKS = {
        "getLine", "getPlace", "getInside", "isAground", "getFuel", "getFood", "getSalt", "getChannel", "isOnAir",
        "getSignal", "getHeard", "getListeners", "getAboard", "isTired", "getSpeaker", "isMutiny", "getEarned",
        "getMoney", "getEvidence", "getKept", "getChoices", "getDate", "getDate", "getNightShare", "getMeanCrew",
        "checksum"
    };

    private final Random random;
    private final int seed;
    private final GalleonWave wave = new GalleonWave();
    private final Model model = new Model();
    private final List<String> told = new ArrayList<>();
    private int hour = 0;
    private boolean isWrong = false;
    private final boolean isWild;

    private ModelTest(int seed) {
        this.seed = seed;
        isWild = seed % 4 == 0;
        random = new Random(seed);
    }

    public static void main(String[] args) {
        for (int seed = 0; seed < RUNS; seed++) {
            new ModelTest(seed).run();
        }
        Check.end("ModelTest");
    }

    private void run() {
        begin();
        int longHours = seed % 8 == 0 ? 96 : 4;
        while (told.size() < CALLS && !isWrong) {
            int kind = random.nextInt(20);
            if (kind < 4) {
                call("pass", kind == 0 ? 1 + random.nextInt(longHours) : 1);
            } else if (kind == 4 && !isWild) {
                refit(random.nextInt(4));
            } else if (kind < 11) {
                String act = ACTS[random.nextInt(ACTS.length)];
                callRandom(isWild || !SPOILS.contains(act) || random.nextInt(20) == 0 ? act : "plan");
            } else {
                callRandom(ASKS[random.nextInt(ASKS.length)]);
            }
        }
        Check.due("isSound of run " + seed, wave.isSound(), true);
    }

    /** Lands, some near, and ships that have what it takes to be on the air, of which some is little. */
    private void begin() {
        int lands = 1 + random.nextInt(4);
        for (int i = 0; i < lands; i++) {
            int far = random.nextInt(3) == 0 ? 900 : 90;
            call("addLand", around(far), around(far), 1 + random.nextInt(isWild ? 50 : 5));
        }
        for (int i = 0; i < 1 + random.nextInt(4); i++) {
            call("addTown", random.nextInt(lands), around(60), around(60), 1 + random.nextInt(999));
        }
        int ships = 1 + random.nextInt(4);
        int apart = seed % 3 == 0 ? 8 : 40;
        for (int i = 0; i < ships; i++) {
            call("addShip", around(apart), around(apart));
            call("addGenerator", i, 20 + random.nextInt(31), 1 + random.nextInt(400));
            call("setGenerator", i, 0, true);
            call("addPerson", random.nextInt(lands), 'd');
            call("book", 0, i, true);
            call("load", 0, random.nextInt(9999), random.nextInt(random.nextInt(3) == 0 ? 30 : 999),
                    random.nextInt(3) * (random.nextBoolean() ? 1 : i));
            call("send", 0, i, false);
            call("setPower", i, 1 + random.nextInt(25));
            call("sell", i, 20);
            if (random.nextInt(3) != 0) {
                call("anchor", i, "smr".charAt(random.nextInt(3)));
            }
        }
    }

    /** Some of what a ship may lack. */
    private void refit(int ship) {
        call("setWind", random.nextInt(9), "nesw".charAt(random.nextInt(4)));
        call("load", 0, random.nextInt(2000), random.nextInt(4) == 0 ? 0 : random.nextInt(300), random.nextInt(4) - 1);
        if (random.nextInt(3) == 0) {
            call("book", 0, number(0, 5), true);
        }
        call("send", 0, ship, random.nextInt(4) == 0);
        call("setGenerator", ship, random.nextInt(2), true);
        call("setPower", ship, random.nextInt(25));
    }

    private int around(int far) {
        return random.nextInt(2 * far + 1) - far;
    }

    private int few() {
        return random.nextInt(30) == 0 ? random.nextInt(9) - 2 : random.nextInt(4);
    }

    /** Mostly least to most, now and then next to it. */
    private int number(int least, int most) {
        return random.nextInt(25) != 0 ? least + random.nextInt(most - least + 1)
                : random.nextBoolean() ? least - random.nextInt(2) : most + random.nextInt(2);
    }

    private int who() {
        int kind = random.nextInt(8);
        return kind == 0 ? -1 : kind == 1 ? number(100, 199) : kind == 2 ? 100 : kind == 3 ? number(0, 11) : few();
    }

    private void callRandom(String name) {
        switch (name) {
            case "addLand" -> call(name, number(-999, 999), number(-999, 999), number(1, 50));
            case "addAct" -> call(name, few(), number(hour, hour + random.nextInt(30)), number(0, 300), number(0, 7));
            case "setWind" -> call(name, number(0, random.nextBoolean() ? 12 : 7), "neswx".charAt(number(1, 4) - 1 & 3));
            case "setTide" -> call(name, number(-3, 3), number(-3, 3));
            case "addTown" -> call(name, few(), around(100), around(100), number(1, 999));
            case "addShip" -> call(name, around(1001), around(1001));
            case "anchor" -> call(name, few(), "smrx".charAt(random.nextInt(4)));
            case "addGenerator" -> call(name, few(), number(1, 50), number(1, 99));
            case "setGenerator" -> call(name, few(), few() / 2, random.nextInt(5) != 0);
            case "setPower" -> call(name, few(), number(0, 50));
            case "addPerson" -> call(name, few(), "ddex".charAt(random.nextInt(4)));
            case "load" -> call(name, few(), number(0, 3999), number(0, random.nextInt(3) == 0 ? 9 : 500),
                    random.nextInt(3) != 0 ? -1 : number(-1, 9));
            case "book" -> call(name, few(), number(0, 5), random.nextInt(5) != 0);
            case "send" -> call(name, few(), few(), random.nextBoolean());
            case "plan" -> call(name, few(), random.nextBoolean() ? hour % 24 : number(0, 23), who());
            case "sell" -> call(name, few(), number(1, 20));
            case "addRecording" -> call(name, random.nextBoolean() ? -1 : number(-1, 2), random.nextBoolean() ? -1
                    : number(-1, 3), random.nextInt(9) == 0 ? 200 : random.nextBoolean() ? -1 : who());
            case "addAhead" -> call(name, number(0, 5), number(0, 5));
            case "getPlace" -> call(name, few(), random.nextBoolean());
            case "getDate" -> call(name, number(0, 5), random.nextBoolean());
            case "getChoices" -> call(name, number(0, 5));
            case "getAboard", "isTired" -> call(name, number(0, 11));
            case "getSignal", "raid", "board" -> call(name, few(), few());
            case "getMoney", "getKept", "getNightShare", "getMeanCrew", "checksum" -> call(name);
            default -> call(name, few());
        }
    }

    private void call(String name, Object... arguments) {
        String got = answer(wave, name, arguments);
        String want = answer(model, name, arguments);
        StringBuilder text = new StringBuilder(name).append('(');
        for (Object argument : arguments) {
            text.append(text.charAt(text.length() - 1) == '(' ? "" : ", ").append(argument);
        }
        told.add(text.append(") = ").append(want).toString());
        if (name.equals("pass") && !want.startsWith("throws")) {
            hour = Integer.parseInt(want);
        }
        isWrong |= !got.equals(want);
        if (!got.equals(want)) {
            System.out.println(String.join("; ", told));
        }
        Check.due("run " + seed + ": " + text + ", but answered " + got, got.equals(want), true);
    }

    private static String answer(Object of, String name, Object... arguments) {
        Method found = null;
        for (Method method : of.getClass().getDeclaredMethods()) {
            found = method.getName().equals(name) && method.getParameterCount() == arguments.length ? method : found;
        }
        try {
            return "" + found.invoke(of, arguments);
        } catch (InvocationTargetException e) {
            return "throws " + e.getCause().getClass().getSimpleName();
        } catch (IllegalAccessException e) {
            return "none";
        }
    }
}
