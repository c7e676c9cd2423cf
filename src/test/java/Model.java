import java.util.ArrayList;
import java.util.List;
import java.util.NoSuchElementException;

/** The document told a second time, as naive as can be and with histories in place of counters, to compare with. */
final class Model {
    private static final class Land {
        int east;
        int north;
        int shallows;
        final List<int[]> acts = new ArrayList<>();
        int evidence;
        final List<int[]> loads = new ArrayList<>();
        final List<Integer> booked = new ArrayList<>();
    }

    private static final class Town {
        int land;
        int east;
        int north;
        int thousands;
        int heard = -1;
    }

    private static final class Person {
        int land;
        char kind;
        int ship = -1;
        int since;
    }

    private static final class Ship {
        int east;
        int north;
        int[] home;
        int fuel;
        int food;
        int salt;
        int power;
        int channel = -1;
        int hold;
        int dropped = -1;
        final List<int[]> generators = new ArrayList<>();
        final List<Boolean> hungry = new ArrayList<>();
        boolean mutiny;
        final int[] plan = new int[24];
        int lastTape = 200;
        boolean onAir;
        int ran;
        int speaker;
        int listeners;
        int left;
        final List<Integer> soldOn = new ArrayList<>();
        int earned;
    }

    private final List<Land> lands = new ArrayList<>();
    private final List<Town> towns = new ArrayList<>();
    private final List<Ship> ships = new ArrayList<>();
    private final List<Person> people = new ArrayList<>();
    private final List<int[]> kept = new ArrayList<>();
    private final List<int[]> recordings = new ArrayList<>();
    private final List<int[]> aheads = new ArrayList<>();
    private int hour;
    private int wind;
    private char way = 'n';
    private int tideEast;
    private int tideNorth;
    private int money;

    private static void index(boolean... are) {
        for (boolean is : are) {
            if (!is) {
                throw new IndexOutOfBoundsException();
            }
        }
    }

    private static void argument(boolean... are) {
        for (boolean is : are) {
            if (!is) {
                throw new IllegalArgumentException();
            }
        }
    }

    private static void state(boolean is) {
        if (!is) {
            throw new IllegalStateException();
        }
    }

    private static void supported(boolean is) {
        if (!is) {
            throw new UnsupportedOperationException();
        }
    }

    private static boolean in(int number, int least, int most) {
        return least <= number && number <= most;
    }

    private static boolean of(int number, List<?> all) {
        return in(number, 0, all.size() - 1);
    }

    private static boolean place(int east, int north) {
        return in(east, -999, 999) && in(north, -999, 999);
    }

    private static boolean near(int east, int north, int otherEast, int otherNorth, int far) {
        return in(east - otherEast, -far, far) && in(north - otherNorth, -far, far);
    }

    private boolean night(int at) {
        return !in(at % 24, 6, 17);
    }

    private int[] act(int land) {
        int[] newest = {0, 30, 0};
        for (int[] act : lands.get(land).acts) {
            if (act[0] <= hour && act[0] >= newest[0]) {
                newest = act;
            }
        }
        return newest;
    }

    private boolean forbids(int land, int bit) {
        return act(land)[2] / bit % 2 == 1;
    }

    private boolean insideLine(int land, Ship ship) {
        Land of = lands.get(land);
        return near(of.east, of.north, ship.east, ship.north, act(land)[1]);
    }

    private int inside(Ship ship) {
        int land = 0;
        while (land < lands.size() && !insideLine(land, ship)) {
            land++;
        }
        return land < lands.size() ? land : -1;
    }

    private boolean aground(Ship ship) {
        return lands.stream().anyMatch(l -> near(l.east, l.north, ship.east, ship.north, l.shallows));
    }

    private int crew(int ship) {
        return (int) people.stream().filter(p -> p.ship == ship).count();
    }

    private boolean tired(int person) {
        Person of = people.get(person);
        return of.ship >= 0 && hour - of.since >= 336;
    }

    private boolean person(int who) {
        return of(who, people);
    }

    private static boolean tape(int who) {
        return in(who, 100, 199);
    }

    public int addLand(int east, int north, int shallows) {
        argument(place(east, north), in(shallows, 1, 50));
        state(lands.size() < 4);
        Land land = new Land();
        land.east = east;
        land.north = north;
        land.shallows = shallows;
        lands.add(land);
        return lands.size() - 1;
    }

    public int addAct(int land, int from, int line, int forbidden) {
        index(of(land, lands));
        argument(in(from, hour, 99999), in(line, 0, 300), in(forbidden, 0, 7));
        state(lands.get(land).acts.size() < 8);
        lands.get(land).acts.add(new int[] {from, line, forbidden});
        return lands.get(land).acts.size();
    }

    public int getLine(int land) {
        index(of(land, lands));
        return act(land)[1];
    }

    public int setWind(int force, char toward) {
        argument("nesw".indexOf(toward) >= 0, in(force, 0, 12));
        int before = wind;
        wind = force;
        way = toward;
        return before;
    }

    public int setTide(int east, int north) {
        argument(in(east, -3, 3), in(north, -3, 3));
        int before = tideEast;
        tideEast = east;
        tideNorth = north;
        return before;
    }

    public int addTown(int land, int east, int north, int thousands) {
        index(of(land, lands));
        argument(place(east, north), in(thousands, 1, 999));
        state(towns.size() < 6);
        Town town = new Town();
        town.land = land;
        town.east = east;
        town.north = north;
        town.thousands = thousands;
        towns.add(town);
        return towns.size() - 1;
    }

    public int pass(int hours) {
        argument(in(hours, 1, 96));
        for (int i = 0; i < hours; i++) {
            air();
            listen();
            for (int s = 0; s < ships.size(); s++) {
                if (ships.get(s).onAir) {
                    spot(s);
                    speak(s);
                }
            }
            for (int s = 0; s < ships.size(); s++) {
                eat(s);
                move(ships.get(s));
            }
            hour++;
        }
        return hour;
    }

    private void air() {
        for (int s = 0; s < ships.size(); s++) {
            Ship ship = ships.get(s);
            ship.ran = 0;
            int power = 0;
            for (int g = 0; g < ship.generators.size(); g++) {
                int[] generator = ship.generators.get(g);
                if (generator[2] == 1 && generator[3] < generator[1] && ship.fuel - generator[0] >= 0) {
                    ship.fuel -= generator[0];
                    generator[3]++;
                    ship.ran += g + 1;
                    power += generator[0];
                }
            }
            ship.onAir = ship.channel >= 0 && ship.power >= 1 && power >= ship.power + 1 && crew(s) >= 1
                    && !ship.mutiny;
        }
    }

    private int signal(Ship ship, Town town) {
        int out = ship.power * (10 - ship.salt) / 10;
        int far = Math.max(Math.abs(ship.east - town.east), Math.abs(ship.north - town.north));
        return (out < 1 ? 1 : out) * (night(hour) ? 2000 : 1000) / (far * far + 10);
    }

    private void listen() {
        for (Ship ship : ships) {
            ship.listeners = 0;
        }
        for (Town town : towns) {
            town.heard = -1;
            int strongest = 0;
            for (int s = 0; s < ships.size(); s++) {
                int signal = ships.get(s).onAir ? signal(ships.get(s), town) : 0;
                int others = -signal;
                for (Ship other : ships) {
                    others += other.onAir && other.channel == ships.get(s).channel ? signal(other, town) : 0;
                }
                if (signal >= 20 && signal >= 2 * others && signal > strongest) {
                    strongest = signal;
                    town.heard = s;
                }
            }
            if (town.heard >= 0) {
                ships.get(town.heard).listeners += town.thousands;
            }
        }
    }

    private void spot(int s) {
        Ship ship = ships.get(s);
        int counted = 0;
        for (Town town : towns) {
            if (town.heard == s && !forbids(town.land, 4) && inside(ship) != town.land) {
                counted += town.thousands;
            }
        }
        if (ship.left > 0) {
            ship.left--;
            ship.earned += counted / 10;
        }
    }

    private boolean canSpeak(int s, int who) {
        return person(who) && people.get(who).kind == 'd' && people.get(who).ship == s && !tired(who);
    }

    private int speaker(int s) {
        Ship ship = ships.get(s);
        int planned = ship.plan[hour % 24];
        if (tape(planned) || canSpeak(s, planned)) {
            return planned;
        }
        for (int who = 0; who < people.size(); who++) {
            boolean isElsewhere = false;
            for (int h = 0; h < 24; h++) {
                isElsewhere |= h != hour % 24 && ship.plan[h] == who;
            }
            if (canSpeak(s, who) && !isElsewhere) {
                return who;
            }
        }
        return ship.lastTape;
    }

    private void speak(int s) {
        Ship ship = ships.get(s);
        ship.speaker = speaker(s);
        if (person(ship.speaker)) {
            offend(people.get(ship.speaker).land, 2, inside(ship));
        }
        kept.add(new int[] {hour, s, ship.channel, ship.ran, ship.speaker});
        if (kept.size() > 200) {
            kept.remove(0);
        }
    }

    private void offend(int land, int bit, int around) {
        for (int i = 0; i < lands.size(); i++) {
            if (i == around || i == land && forbids(i, bit)) {
                lands.get(i).evidence++;
            }
        }
    }

    private void eat(int s) {
        Ship ship = ships.get(s);
        int crew = crew(s);
        ship.hungry.add(crew > 0 && ship.food < crew);
        ship.food = Math.max(0, ship.food - crew);
        int hours = ship.hungry.size();
        if (hours >= 24 && !ship.hungry.subList(hours - 24, hours).contains(false)) {
            ship.mutiny = true;
        }
    }

    private void move(Ship ship) {
        if (wind > 6 && ship.salt < 8) {
            ship.salt++;
        }
        if (aground(ship)) {
            return;
        }
        boolean isDown = ship.dropped >= 0;
        int by = isDown ? Math.max(0, wind - ship.hold) : wind / 2;
        int tide = isDown ? 0 : in(hour % 24, 6, 11) || in(hour % 24, 18, 23) ? -1 : 1;
        int toEast = (way == 'e' ? by : way == 'w' ? -by : 0) + tide * tideEast;
        int toNorth = (way == 'n' ? by : way == 's' ? -by : 0) + tide * tideNorth;
        ship.east = Math.max(-999, Math.min(999, ship.east + toEast));
        ship.north = Math.max(-999, Math.min(999, ship.north + toNorth));
    }

    public int addShip(int east, int north) {
        argument(place(east, north));
        state(ships.size() < 4);
        Ship ship = new Ship();
        ship.east = east;
        ship.north = north;
        ship.home = new int[] {east, north};
        java.util.Arrays.fill(ship.plan, -1);
        ships.add(ship);
        return ships.size() - 1;
    }

    public int getPlace(int ship, boolean isEast) {
        index(of(ship, ships));
        return isEast ? ships.get(ship).east : ships.get(ship).north;
    }

    public int getInside(int ship) {
        index(of(ship, ships));
        return inside(ships.get(ship));
    }

    public int anchor(int ship, char bottom) {
        index(of(ship, ships));
        argument("smr".indexOf(bottom) >= 0);
        Ship of = ships.get(ship);
        supported(of.dropped < 0 && !aground(of));
        of.hold = 8 - 2 * "smr".indexOf(bottom);
        of.dropped = hour;
        of.home = new int[] {of.east, of.north};
        return of.hold;
    }

    public int weigh(int ship) {
        index(of(ship, ships));
        Ship of = ships.get(ship);
        supported(of.dropped >= 0 && !aground(of));
        int hours = hour - of.dropped;
        of.dropped = -1;
        return hours;
    }

    public boolean isAground(int ship) {
        index(of(ship, ships));
        return aground(ships.get(ship));
    }

    public int pullOff(int ship) {
        index(of(ship, ships));
        Ship of = ships.get(ship);
        supported(aground(of));
        of.east = of.home[0];
        of.north = of.home[1];
        return money -= 500;
    }

    public int addGenerator(int ship, int power, int life) {
        index(of(ship, ships));
        argument(in(power, 1, 50), in(life, 1, 9999));
        state(ships.get(ship).generators.size() < 2);
        ships.get(ship).generators.add(new int[] {power, life, 0, 0});
        return ships.get(ship).generators.size() - 1;
    }

    public int setGenerator(int ship, int generator, boolean isOn) {
        index(of(ship, ships));
        index(of(generator, ships.get(ship).generators));
        int[] set = ships.get(ship).generators.get(generator);
        set[2] = isOn ? 1 : 0;
        return set[3];
    }

    public int getFuel(int ship) {
        index(of(ship, ships));
        return ships.get(ship).fuel;
    }

    public int getFood(int ship) {
        index(of(ship, ships));
        return ships.get(ship).food;
    }

    public int getSalt(int ship) {
        index(of(ship, ships));
        return ships.get(ship).salt;
    }

    public int wash(int ship) {
        index(of(ship, ships));
        supported(crew(ship) > 0);
        int before = ships.get(ship).salt;
        ships.get(ship).salt = 0;
        return before;
    }

    public int setPower(int ship, int power) {
        index(of(ship, ships));
        argument(in(power, 0, 50));
        int before = ships.get(ship).power;
        ships.get(ship).power = power;
        return before;
    }

    public int getChannel(int ship) {
        index(of(ship, ships));
        return ships.get(ship).channel;
    }

    public boolean isOnAir(int ship) {
        index(of(ship, ships));
        return ships.get(ship).onAir;
    }

    public int getSignal(int ship, int town) {
        index(of(ship, ships), of(town, towns));
        return signal(ships.get(ship), towns.get(town));
    }

    public int getHeard(int town) {
        index(of(town, towns));
        return towns.get(town).heard;
    }

    public int getListeners(int ship) {
        index(of(ship, ships));
        return ships.get(ship).listeners;
    }

    public int addPerson(int land, char kind) {
        index(of(land, lands));
        argument(kind == 'd' || kind == 'e');
        state(people.size() < 12);
        Person person = new Person();
        person.land = land;
        person.kind = kind;
        people.add(person);
        return people.size() - 1;
    }

    public int getAboard(int person) {
        index(person(person));
        return people.get(person).ship;
    }

    public boolean isTired(int person) {
        index(person(person));
        return tired(person);
    }

    private int cost(Land land) {
        int cost = 50;
        for (int[] load : land.loads) {
            cost += load[0] + load[1];
        }
        return cost;
    }

    public int load(int land, int fuel, int food, int crystal) {
        index(of(land, lands));
        argument(in(fuel, 0, 9999), in(food, 0, 999), in(crystal, -1, 9));
        lands.get(land).loads.add(new int[] {fuel, food, crystal});
        return cost(lands.get(land));
    }

    public int book(int land, int person, boolean is) {
        index(of(land, lands), person(person));
        supported(people.get(person).ship < 0);
        for (Land other : lands) {
            supported(other == lands.get(land) || !other.booked.contains(person));
        }
        List<Integer> booked = lands.get(land).booked;
        booked.remove((Integer) person);
        if (is) {
            booked.add(person);
        }
        return booked.size();
    }

    public int send(int land, int ship, boolean isBack) {
        index(of(land, lands), of(ship, ships));
        supported(wind <= 7);
        Land from = lands.get(land);
        Ship to = ships.get(ship);
        money -= cost(from);
        offend(land, 1, inside(to));
        for (int who = 0; who < people.size(); who++) {
            if (isBack && people.get(who).ship == ship && tired(who)) {
                people.get(who).ship = -1;
            }
        }
        for (int who : from.booked) {
            people.get(who).ship = ship;
            people.get(who).since = hour;
        }
        for (int[] load : from.loads) {
            to.fuel += load[0];
            to.food += load[1];
            to.channel = load[2] >= 0 ? load[2] : to.channel;
        }
        from.booked.clear();
        from.loads.clear();
        to.mutiny = false;
        return money;
    }

    public int plan(int ship, int of, int who) {
        index(of(ship, ships));
        argument(in(of, 0, 23), who == -1 || person(who) || tape(who));
        Ship planned = ships.get(ship);
        int before = planned.plan[of];
        planned.plan[of] = who;
        planned.lastTape = tape(who) ? who : planned.lastTape;
        return before;
    }

    public int getSpeaker(int ship) {
        index(of(ship, ships));
        if (!ships.get(ship).onAir) {
            throw new NoSuchElementException();
        }
        return ships.get(ship).speaker;
    }

    public boolean isMutiny(int ship) {
        index(of(ship, ships));
        return ships.get(ship).mutiny;
    }

    public int sell(int ship, int many) {
        index(of(ship, ships));
        argument(in(many, 1, 20));
        Ship of = ships.get(ship);
        supported(of.soldOn.stream().filter(day -> day == hour / 24).count() + many <= 20);
        for (int i = 0; i < many; i++) {
            of.soldOn.add(hour / 24);
        }
        return of.left += many;
    }

    public int bank(int ship) {
        index(of(ship, ships));
        money += ships.get(ship).earned;
        ships.get(ship).earned = 0;
        return money;
    }

    public int getEarned(int ship) {
        index(of(ship, ships));
        return ships.get(ship).earned;
    }

    public int getMoney() {
        return money;
    }

    public int getEvidence(int land) {
        index(of(land, lands));
        return lands.get(land).evidence;
    }

    public int raid(int land, int ship) {
        index(of(land, lands), of(ship, ships));
        Ship of = ships.get(ship);
        supported(lands.get(land).evidence > 2 && insideLine(land, of));
        int gone = of.earned;
        of.channel = -1;
        of.earned = 0;
        lands.get(land).evidence = 0;
        return gone;
    }

    public boolean board(int ship, int other) {
        index(of(ship, ships), of(other, ships));
        argument(ship != other);
        Ship one = ships.get(ship);
        Ship two = ships.get(other);
        supported(near(one.east, one.north, two.east, two.north, 10));
        if (crew(ship) > crew(other) && two.channel >= 0) {
            one.channel = two.channel;
            two.channel = -1;
            return true;
        }
        return false;
    }

    public int getKept() {
        return kept.size();
    }

    public int addRecording(int channel, int generators, int who) {
        argument(in(channel, -1, 9), in(generators, -1, 3), who == -1 || who == 200 || person(who) || tape(who));
        state(recordings.size() < 6);
        recordings.add(new int[] {channel, generators, who});
        return recordings.size() - 1;
    }

    private boolean ahead(int recording, int other, int depth) {
        for (int[] told : aheads) {
            if (told[0] == recording && (told[1] == other || depth < 6 && ahead(told[1], other, depth + 1))) {
                return true;
            }
        }
        return false;
    }

    public int addAhead(int recording, int other) {
        index(of(recording, recordings), of(other, recordings));
        argument(recording != other);
        supported(!ahead(other, recording, 0));
        for (int[] told : aheads) {
            supported(told[0] != recording || told[1] != other);
        }
        aheads.add(new int[] {recording, other});
        return aheads.size();
    }

    private boolean like(int recording, int[] at) {
        int[] of = recordings.get(recording);
        return (of[0] < 0 || of[0] == at[2]) && (of[1] < 0 || of[1] == at[3]) && (of[2] < 0 || of[2] == at[4]);
    }

    public int getChoices(int recording) {
        index(of(recording, recordings));
        return (int) kept.stream().filter(at -> like(recording, at)).count();
    }

    public int getDate(int recording, boolean isLatest) {
        index(of(recording, recordings));
        int date = best(recording, isLatest, new int[6], 0, 0, isLatest ? kept.size() - 1 : 0);
        if (date < 0) {
            throw new NoSuchElementException();
        }
        return date;
    }

    /** Tries all orders; each next recording of an order takes the first kept hour it can, or going back the last. */
    private int best(int recording, boolean isLatest, int[] dates, int done, int many, int from) {
        if (many == recordings.size()) {
            return dates[recording];
        }
        int best = -1;
        for (int next = 0; next < recordings.size(); next++) {
            int at = (done >> next) % 2 == 1 ? -1 : first(next, isLatest, dates, done, from);
            if (at >= 0) {
                dates[next] = kept.get(at)[0];
                int date = best(recording, isLatest, dates, done + (1 << next), many + 1, isLatest ? at - 1 : at + 1);
                best = date < 0 ? best : best < 0 || isLatest == date > best ? date : best;
            }
        }
        return best;
    }

    private int first(int next, boolean isLatest, int[] dates, int done, int from) {
        for (int at = from; in(at, 0, kept.size() - 1); at += isLatest ? -1 : 1) {
            boolean fits = like(next, kept.get(at));
            for (int[] told : aheads) {
                int other = told[isLatest ? 1 : 0];
                if (told[isLatest ? 0 : 1] == next) {
                    fits &= (done >> other) % 2 == 1 && dates[other] != kept.get(at)[0];
                }
            }
            if (fits) {
                return at;
            }
        }
        return -1;
    }

    public float getNightShare() {
        if (kept.isEmpty()) {
            throw new ArithmeticException();
        }
        return (float) kept.stream().filter(at -> night(at[0])).count() / (float) kept.size();
    }

    public double getMeanCrew() {
        if (ships.isEmpty()) {
            throw new ArithmeticException();
        }
        return (double) people.stream().filter(p -> p.ship >= 0).count() / (double) ships.size();
    }

    public long checksum() {
        long sum = 7;
        for (Ship ship : ships) {
            for (int part : new int[] {ship.east, ship.north, ship.fuel, ship.channel, ship.earned}) {
                sum = sum * 31 + part;
            }
        }
        return (sum * 31 + money) * 31 + hour;
    }

    public boolean isSound() {
        return true;
    }
}
