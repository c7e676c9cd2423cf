import java.util.ArrayList;
import java.util.NoSuchElementException;

public final class GalleonWave {
    private static final int FARTHEST = 999;
    private static final int HOURS_OF_DAY = 24;

    private static final int MOST_LANDS = 4;
    private static final int MOST_ACTS = 8;
    private static final int MOST_TOWNS = 6;
    private static final int MOST_SHIPS = 4;
    private static final int MOST_GENERATORS = 2;
    private static final int MOST_PEOPLE = 12;
    private static final int MOST_KEPT = 200;
    private static final int MOST_RECORDINGS = 6;

    private static final int LATEST_ACT = 99999;
    private static final int FIRST_LINE = 30;
    private static final int SUPPLY = 1;
    private static final int SPEAK = 2;
    private static final int ADVERTISE = 4;
    private static final int RAID_EVIDENCE = 3;

    private static final int NO_HOLD = 0;
    private static final int TENDER_WIND = 7;
    private static final int TENDER_PRICE = 50;
    private static final int TUG_PRICE = 500;
    private static final int SALT_WIND = 7;
    private static final int MOST_SALT = 8;
    private static final int MOST_POWER = 50;
    private static final int CLEAR_SIGNAL = 20;
    private static final int BOARDING_REACH = 10;

    private static final int TIRED_HOURS = 336;
    private static final int MUTINY_HOURS = 24;
    private static final int MOST_SPOTS = 20;

    private static final int NOTHING = -1;
    private static final int FIRST_TAPE = 100;
    private static final int LAST_TAPE = 199;
    private static final int TONE = 200;

    private static final int NEVER = -1;
    private static final int MOST_IN_ORDERS = 4;

    private final ArrayList<Land> lands;
    private final ArrayList<Town> towns;
    private final ArrayList<Ship> ships;
    private final ArrayList<Person> people;
    private final Archive archive;
    private int hour;
    private int windForce;
    private char windWay;
    private int tideEast;
    private int tideNorth;
    private int money;

    public GalleonWave() {
        lands = new ArrayList<Land>();
        towns = new ArrayList<Town>();
        ships = new ArrayList<Ship>();
        people = new ArrayList<Person>();
        archive = new Archive();
        windWay = 'n';
    }

    // ---- lands and weather

    public int addLand(int east, int north, int shallows) throws IllegalArgumentException, IllegalStateException {
        requirePlace(east, north);
        requireRange(shallows, 1, 50);
        requireRoom(lands.size(), MOST_LANDS);
        lands.add(new Land(east, north, shallows));
        return lands.size() - 1;
    }

    public int addAct(int land, int hour, int line, int forbidden)
            throws IndexOutOfBoundsException, IllegalArgumentException, IllegalStateException {
        Land of = landAt(land);
        requireRange(hour, this.hour, LATEST_ACT);
        requireRange(line, 0, 300);
        requireRange(forbidden, 0, 7);
        requireRoom(of.actCount, MOST_ACTS);
        of.tellAct(hour, line, forbidden);
        return of.actCount;
    }

    public int getLine(int land) throws IndexOutOfBoundsException {
        return landAt(land).lineAt(hour);
    }

    public int setWind(int force, char way) throws IllegalArgumentException {
        requireRange(force, 0, 12);
        if (way != 'n' && way != 'e' && way != 's' && way != 'w') {
            throw new IllegalArgumentException("there is no such way");
        }
        int before = windForce;
        windForce = force;
        windWay = way;
        return before;
    }

    public int setTide(int east, int north) throws IllegalArgumentException {
        requireRange(east, -3, 3);
        requireRange(north, -3, 3);
        int before = tideEast;
        tideEast = east;
        tideNorth = north;
        return before;
    }

    public int addTown(int land, int east, int north, int thousands)
            throws IndexOutOfBoundsException, IllegalArgumentException, IllegalStateException {
        landAt(land);
        requirePlace(east, north);
        requireRange(thousands, 1, 999);
        requireRoom(towns.size(), MOST_TOWNS);
        towns.add(new Town(land, east, north, thousands));
        return towns.size() - 1;
    }

    public int pass(int hours) throws IllegalArgumentException {
        requireRange(hours, 1, 96);
        for (int i = 0; i < hours; i++) {
            passHour();
        }
        return hour;
    }

    // ---- ships

    public int addShip(int east, int north) throws IllegalArgumentException, IllegalStateException {
        requirePlace(east, north);
        requireRoom(ships.size(), MOST_SHIPS);
        ships.add(new Ship(east, north));
        return ships.size() - 1;
    }

    public int getPlace(int ship, boolean isEast) throws IndexOutOfBoundsException {
        Ship of = shipAt(ship);
        return isEast ? of.east : of.north;
    }

    public int getInside(int ship) throws IndexOutOfBoundsException {
        return landAround(shipAt(ship));
    }

    public int anchor(int ship, char bottom)
            throws IndexOutOfBoundsException, IllegalArgumentException, UnsupportedOperationException {
        Ship of = shipAt(ship);
        int holds = holdOf(bottom);
        if (holds == NO_HOLD) {
            throw new IllegalArgumentException("there is no such bottom");
        }
        if (of.anchor.isDown || isStranded(of)) {
            throw new UnsupportedOperationException("the anchor is down, or the ship is aground");
        }
        of.anchor.drop(of.east, of.north, holds, hour);
        return holds;
    }

    public int weigh(int ship) throws IndexOutOfBoundsException, UnsupportedOperationException {
        Ship of = shipAt(ship);
        if (!of.anchor.isDown || isStranded(of)) {
            throw new UnsupportedOperationException("the anchor is up, or the ship is aground");
        }
        of.anchor.isDown = false;
        return hour - of.anchor.dropHour;
    }

    public boolean isAground(int ship) throws IndexOutOfBoundsException {
        return isStranded(shipAt(ship));
    }

    public int pullOff(int ship) throws IndexOutOfBoundsException, UnsupportedOperationException {
        Ship of = shipAt(ship);
        if (!isStranded(of)) {
            throw new UnsupportedOperationException("the ship is not aground");
        }
        of.east = of.anchor.east;
        of.north = of.anchor.north;
        money -= TUG_PRICE;
        return money;
    }

    public int addGenerator(int ship, int power, int life)
            throws IndexOutOfBoundsException, IllegalArgumentException, IllegalStateException {
        Ship of = shipAt(ship);
        requireRange(power, 1, 50);
        requireRange(life, 1, 9999);
        requireRoom(of.generators.size(), MOST_GENERATORS);
        of.generators.add(new Generator(power, life));
        return of.generators.size() - 1;
    }

    public int setGenerator(int ship, int generator, boolean isOn) throws IndexOutOfBoundsException {
        Ship of = shipAt(ship);
        requireNumber(generator, of.generators.size());
        Generator set = of.generators.get(generator);
        set.isOn = isOn;
        return set.ranHours;
    }

    public int getFuel(int ship) throws IndexOutOfBoundsException {
        return shipAt(ship).fuel;
    }

    public int getFood(int ship) throws IndexOutOfBoundsException {
        return shipAt(ship).food;
    }

    public int getSalt(int ship) throws IndexOutOfBoundsException {
        return shipAt(ship).salt;
    }

    public int wash(int ship) throws IndexOutOfBoundsException, UnsupportedOperationException {
        Ship of = shipAt(ship);
        if (countCrew(ship) == 0) {
            throw new UnsupportedOperationException("nobody is aboard");
        }
        int washed = of.salt;
        of.salt = 0;
        return washed;
    }

    public int setPower(int ship, int power) throws IndexOutOfBoundsException, IllegalArgumentException {
        Ship of = shipAt(ship);
        requireRange(power, 0, MOST_POWER);
        int before = of.power;
        of.power = power;
        return before;
    }

    public int getChannel(int ship) throws IndexOutOfBoundsException {
        return shipAt(ship).channel;
    }

    public boolean isOnAir(int ship) throws IndexOutOfBoundsException {
        return shipAt(ship).wasOnAir;
    }

    public int getSignal(int ship, int town) throws IndexOutOfBoundsException {
        Ship of = shipAt(ship);
        return signalOf(of, townAt(town));
    }

    public int getHeard(int town) throws IndexOutOfBoundsException {
        return townAt(town).heard;
    }

    public int getListeners(int ship) throws IndexOutOfBoundsException {
        return shipAt(ship).listeners;
    }

    // ---- people, tenders, programmes

    public int addPerson(int land, char kind)
            throws IndexOutOfBoundsException, IllegalArgumentException, IllegalStateException {
        landAt(land);
        if (kind != 'd' && kind != 'e') {
            throw new IllegalArgumentException("there is no such kind");
        }
        requireRoom(people.size(), MOST_PEOPLE);
        people.add(new Person(land, kind == 'd'));
        return people.size() - 1;
    }

    public int getAboard(int person) throws IndexOutOfBoundsException {
        return personAt(person).aboard;
    }

    public boolean isTired(int person) throws IndexOutOfBoundsException {
        return personAt(person).isWeary();
    }

    public int load(int land, int fuel, int food, int crystal)
            throws IndexOutOfBoundsException, IllegalArgumentException {
        Land of = landAt(land);
        requireRange(fuel, 0, 9999);
        requireRange(food, 0, 999);
        requireRange(crystal, NOTHING, 9);
        of.fuel += fuel;
        of.food += food;
        if (crystal != NOTHING) {
            of.crystal = crystal;
        }
        return of.tenderCost();
    }

    public int book(int land, int person, boolean is) throws IndexOutOfBoundsException, UnsupportedOperationException {
        landAt(land);
        Person one = personAt(person);
        if (one.aboard != NOTHING || (one.booked != NOTHING && one.booked != land)) {
            throw new UnsupportedOperationException("that one is aboard, or goes with the tender of another land");
        }
        one.booked = is ? land : NOTHING;
        return countBooked(land);
    }

    public int send(int land, int ship, boolean isBack)
            throws IndexOutOfBoundsException, UnsupportedOperationException {
        Land from = landAt(land);
        Ship to = shipAt(ship);
        if (windForce > TENDER_WIND) {
            throw new UnsupportedOperationException("the wind is too strong");
        }
        money -= from.tenderCost();
        commitOffence(land, landAround(to), SUPPLY);
        if (isBack) {
            takeTiredAshore(ship);
        }
        takeBookedAboard(land, ship);
        from.unloadTo(to);
        to.isMutinous = false;
        return money;
    }

    public int plan(int ship, int hour, int who) throws IndexOutOfBoundsException, IllegalArgumentException {
        Ship of = shipAt(ship);
        requireRange(hour, 0, HOURS_OF_DAY - 1);
        if (who != NOTHING && !isPersonOrTape(who)) {
            throw new IllegalArgumentException("there is no such person or tape");
        }
        return of.programme.tell(hour, who);
    }

    public int getSpeaker(int ship) throws IndexOutOfBoundsException, NoSuchElementException {
        Ship of = shipAt(ship);
        if (!of.wasOnAir) {
            throw new NoSuchElementException("the ship was not on the air");
        }
        return of.speaker;
    }

    public boolean isMutiny(int ship) throws IndexOutOfBoundsException {
        return shipAt(ship).isMutinous;
    }

    public int sell(int ship, int many)
            throws IndexOutOfBoundsException, IllegalArgumentException, UnsupportedOperationException {
        Ship of = shipAt(ship);
        requireRange(many, 1, MOST_SPOTS);
        int day = hour / HOURS_OF_DAY;
        if (of.spots.soldOn(day) + many > MOST_SPOTS) {
            throw new UnsupportedOperationException("more than 20 were sold on this day");
        }
        of.spots.addSold(day, many);
        return of.spots.left;
    }

    public int bank(int ship) throws IndexOutOfBoundsException {
        money += shipAt(ship).spots.takeEarned();
        return money;
    }

    public int getEarned(int ship) throws IndexOutOfBoundsException {
        return shipAt(ship).spots.earned;
    }

    public int getMoney() {
        return money;
    }

    public int getEvidence(int land) throws IndexOutOfBoundsException {
        return landAt(land).evidence;
    }

    public int raid(int land, int ship) throws IndexOutOfBoundsException, UnsupportedOperationException {
        Land of = landAt(land);
        Ship raided = shipAt(ship);
        if (of.evidence < RAID_EVIDENCE || !isInsideLine(of, raided)) {
            throw new UnsupportedOperationException("too little evidence, or the ship is not inside the line");
        }
        of.evidence = 0;
        raided.channel = NOTHING;
        return raided.spots.takeEarned();
    }

    public boolean board(int ship, int other)
            throws IndexOutOfBoundsException, IllegalArgumentException, UnsupportedOperationException {
        Ship rival = shipAt(ship);
        Ship boarded = shipAt(other);
        if (ship == other) {
            throw new IllegalArgumentException("both ships are the same");
        }
        if (apart(rival.east, rival.north, boarded.east, boarded.north) > BOARDING_REACH) {
            throw new UnsupportedOperationException("the ships are too far apart");
        }
        if (boarded.channel == NOTHING || countCrew(ship) <= countCrew(other)) {
            return false;
        }
        rival.channel = boarded.channel;
        boarded.channel = NOTHING;
        return true;
    }

    // ---- the chronicle

    public int getKept() {
        return archive.kept.count;
    }

    public int addRecording(int channel, int generators, int who)
            throws IllegalArgumentException, IllegalStateException {
        requireRange(channel, NOTHING, 9);
        requireRange(generators, NOTHING, 3);
        if (who != NOTHING && who != TONE && !isPersonOrTape(who)) {
            throw new IllegalArgumentException("there is nobody and no tape like that");
        }
        requireRoom(archive.recordings.size(), MOST_RECORDINGS);
        archive.recordings.add(new Recording(channel, generators, who));
        return archive.recordings.size() - 1;
    }

    public int addAhead(int recording, int other)
            throws IndexOutOfBoundsException, IllegalArgumentException, UnsupportedOperationException {
        requireRecording(recording);
        requireRecording(other);
        if (recording == other) {
            throw new IllegalArgumentException("both recordings are the same");
        }
        if (archive.isToldAhead(recording, other) || archive.isBehind(recording, other)) {
            throw new UnsupportedOperationException("it would be ahead of itself, or it is told already");
        }
        return archive.tellAhead(recording, other);
    }

    public int getChoices(int recording) throws IndexOutOfBoundsException {
        requireRecording(recording);
        return archive.kept.countLike(archive.recordings.get(recording));
    }

    public int getDate(int recording, boolean isLatest) throws IndexOutOfBoundsException, NoSuchElementException {
        requireRecording(recording);
        int date = archive.dateOf(recording, isLatest);
        if (date == NEVER) {
            throw new NoSuchElementException("there is no dating");
        }
        return date;
    }

    public float getNightShare() throws ArithmeticException {
        int all = archive.kept.count;
        if (all == 0) {
            throw new ArithmeticException("no hours are kept");
        }
        return (float) archive.kept.countNights() / (float) all;
    }

    public double getMeanCrew() throws ArithmeticException {
        int all = ships.size();
        if (all == 0) {
            throw new ArithmeticException("there are no ships");
        }
        return (double) countAboard() / (double) all;
    }

    public long checksum() {
        long sum = 7;
        for (int i = 0; i < ships.size(); i++) {
            Ship of = ships.get(i);
            sum = 31 * sum + of.east;
            sum = 31 * sum + of.north;
            sum = 31 * sum + of.fuel;
            sum = 31 * sum + of.channel;
            sum = 31 * sum + of.spots.earned;
        }
        sum = 31 * sum + money;
        return 31 * sum + hour;
    }

    public boolean isSound() {
        return areKeptHoursSound() && archive.areDatesAsOrdersTell() && areCrewsSound();
    }

    // ---- arguments

    private static void requireRange(int number, int least, int most) {
        if (number < least || number > most) {
            throw new IllegalArgumentException("a number is out of range");
        }
    }

    private static void requirePlace(int east, int north) {
        requireRange(east, -FARTHEST, FARTHEST);
        requireRange(north, -FARTHEST, FARTHEST);
    }

    private static void requireRoom(int held, int most) {
        if (held >= most) {
            throw new IllegalStateException("there are as many as can be");
        }
    }

    private static void requireNumber(int number, int count) {
        if (number < 0 || number >= count) {
            throw new IndexOutOfBoundsException("there is nothing of that number");
        }
    }

    private void requireRecording(int recording) {
        requireNumber(recording, archive.recordings.size());
    }

    private Land landAt(int land) {
        requireNumber(land, lands.size());
        return lands.get(land);
    }

    private Town townAt(int town) {
        requireNumber(town, towns.size());
        return towns.get(town);
    }

    private Ship shipAt(int ship) {
        requireNumber(ship, ships.size());
        return ships.get(ship);
    }

    private Person personAt(int person) {
        requireNumber(person, people.size());
        return people.get(person);
    }

    private boolean isPerson(int who) {
        return who >= 0 && who < people.size();
    }

    private boolean isPersonOrTape(int who) {
        return isPerson(who) || isTape(who);
    }

    private static boolean isTape(int who) {
        return who >= FIRST_TAPE && who <= LAST_TAPE;
    }

    private static int holdOf(char bottom) {
        return bottom == 's' ? 8 : bottom == 'm' ? 6 : bottom == 'r' ? 4 : NO_HOLD;
    }

    // ---- places and time

    private static int apart(int east, int north, int otherEast, int otherNorth) {
        return Math.max(Math.abs(east - otherEast), Math.abs(north - otherNorth));
    }

    private static int within(int place) {
        return Math.max(-FARTHEST, Math.min(FARTHEST, place));
    }

    private static boolean isNight(int hour) {
        int ofDay = hour % HOURS_OF_DAY;
        return ofDay < 6 || ofDay > 17;
    }

    private boolean isInsideLine(Land land, Ship ship) {
        return apart(land.east, land.north, ship.east, ship.north) <= land.lineAt(hour);
    }

    private int landAround(Ship ship) {
        for (int i = 0; i < lands.size(); i++) {
            if (isInsideLine(lands.get(i), ship)) {
                return i;
            }
        }
        return NOTHING;
    }

    private boolean isStranded(Ship ship) {
        for (int i = 0; i < lands.size(); i++) {
            Land land = lands.get(i);
            if (apart(land.east, land.north, ship.east, ship.north) <= land.shallows) {
                return true;
            }
        }
        return false;
    }

    // ---- an hour

    private void passHour() {
        runGenerators();
        goOnAir();
        listen();
        playSpots();
        speak();
        keepHour();
        eatAndTire();
        gatherSalt();
        moveShips();
        hour++;
    }

    private void runGenerators() {
        for (int i = 0; i < ships.size(); i++) {
            ships.get(i).burnFuel();
        }
    }

    private void goOnAir() {
        for (int i = 0; i < ships.size(); i++) {
            Ship ship = ships.get(i);
            ship.wasOnAir = ship.canSend() && countCrew(i) > 0;
        }
    }

    private void listen() {
        for (int i = 0; i < ships.size(); i++) {
            ships.get(i).listeners = 0;
        }
        for (int i = 0; i < towns.size(); i++) {
            Town town = towns.get(i);
            town.heard = strongestHeard(town);
            if (town.heard >= 0 && town.heard < ships.size()) {
                ships.get(town.heard).listeners += town.thousands;
            }
        }
    }

    private int strongestHeard(Town town) {
        int strongest = NOTHING;
        int most = 0;
        for (int i = 0; i < ships.size(); i++) {
            Ship ship = ships.get(i);
            int signal = ship.wasOnAir ? signalOf(ship, town) : 0;
            if (signal > most && signal >= CLEAR_SIGNAL && signal >= 2 * disturbance(i, ship.channel, town)) {
                strongest = i;
                most = signal;
            }
        }
        return strongest;
    }

    /** The signals of all other ships on a channel; who has twice that or more is the strongest of them. */
    private int disturbance(int ship, int channel, Town town) {
        int sum = 0;
        for (int i = 0; i < ships.size(); i++) {
            Ship other = ships.get(i);
            if (i != ship && other.wasOnAir && other.channel == channel) {
                sum += signalOf(other, town);
            }
        }
        return sum;
    }

    private int signalOf(Ship ship, Town town) {
        int far = apart(ship.east, ship.north, town.east, town.north);
        int sent = 1000 * ship.output() * (isNight(hour) ? 2 : 1);
        return sent / (far * far + 10);
    }

    private void playSpots() {
        for (int i = 0; i < ships.size(); i++) {
            Ship ship = ships.get(i);
            if (ship.wasOnAir) {
                ship.spots.playOne(countPayingThousands(i, landAround(ship)) / 10);
            }
        }
    }

    private int countPayingThousands(int ship, int around) {
        int sum = 0;
        for (int i = 0; i < towns.size(); i++) {
            Town town = towns.get(i);
            if (town.heard == ship && town.land != around && !isForbidden(town.land, ADVERTISE)) {
                sum += town.thousands;
            }
        }
        return sum;
    }

    private void speak() {
        for (int i = 0; i < ships.size(); i++) {
            Ship ship = ships.get(i);
            if (ship.wasOnAir) {
                ship.speaker = chooseSpeaker(i, ship.programme);
                if (isPerson(ship.speaker)) {
                    commitOffence(people.get(ship.speaker).land, landAround(ship), SPEAK);
                }
            }
        }
    }

    private int chooseSpeaker(int ship, Programme programme) {
        int ofDay = hour % HOURS_OF_DAY;
        int planned = programme.at(ofDay);
        if (isTape(planned) || canSpeak(planned, ship)) {
            return planned;
        }
        for (int i = 0; i < people.size(); i++) {
            if (canSpeak(i, ship) && !programme.hasElsewhere(i, ofDay)) {
                return i;
            }
        }
        return programme.lastTape == NOTHING ? TONE : programme.lastTape;
    }

    private boolean canSpeak(int who, int ship) {
        if (!isPerson(who)) {
            return false;
        }
        Person person = people.get(who);
        return person.isSpeaker && person.aboard == ship && !person.isWeary();
    }

    private void keepHour() {
        for (int i = 0; i < ships.size(); i++) {
            Ship ship = ships.get(i);
            if (ship.wasOnAir) {
                archive.kept.keep(hour, i, ship.channel, ship.ranBits, ship.speaker);
            }
        }
    }

    private void eatAndTire() {
        for (int i = 0; i < ships.size(); i++) {
            ships.get(i).feed(countCrew(i));
        }
        for (int i = 0; i < people.size(); i++) {
            Person person = people.get(i);
            if (person.aboard != NOTHING) {
                person.hoursAboard++;
            }
        }
    }

    private void gatherSalt() {
        if (windForce >= SALT_WIND) {
            for (int i = 0; i < ships.size(); i++) {
                Ship ship = ships.get(i);
                ship.salt = Math.min(MOST_SALT, ship.salt + 1);
            }
        }
    }

    private void moveShips() {
        for (int i = 0; i < ships.size(); i++) {
            Ship ship = ships.get(i);
            if (!isStranded(ship)) {
                moveShip(ship);
            }
        }
    }

    private void moveShip(Ship ship) {
        if (ship.anchor.isDown) {
            int dragged = Math.max(0, windForce - ship.anchor.holds);
            ship.moveBy(dragged * windEast(), dragged * windNorth());
        } else {
            int drifted = windForce / 2;
            int turn = hour % HOURS_OF_DAY / 6 % 2 == 0 ? 1 : -1;
            ship.moveBy(drifted * windEast() + turn * tideEast, drifted * windNorth() + turn * tideNorth);
        }
    }

    private int windEast() {
        return windWay == 'e' ? 1 : windWay == 'w' ? -1 : 0;
    }

    private int windNorth() {
        return windWay == 'n' ? 1 : windWay == 's' ? -1 : 0;
    }

    // ---- offences

    private boolean isForbidden(int land, int what) {
        return land >= 0 && land < lands.size() && lands.get(land).forbids(what, hour);
    }

    private void commitOffence(int own, int around, int what) {
        // Inside a land all is forbidden by that one, so the own land adds its offence only if it is another.
        if (own != around && isForbidden(own, what)) {
            addEvidence(own);
        }
        addEvidence(around);
    }

    private void addEvidence(int land) {
        if (land >= 0 && land < lands.size()) {
            lands.get(land).evidence++;
        }
    }

    // ---- crews

    private int countCrew(int ship) {
        int crew = 0;
        for (int i = 0; i < people.size(); i++) {
            if (people.get(i).aboard == ship) {
                crew++;
            }
        }
        return crew;
    }

    private int countAboard() {
        int aboard = 0;
        for (int i = 0; i < people.size(); i++) {
            if (people.get(i).aboard != NOTHING) {
                aboard++;
            }
        }
        return aboard;
    }

    private int countBooked(int land) {
        int booked = 0;
        for (int i = 0; i < people.size(); i++) {
            if (people.get(i).booked == land) {
                booked++;
            }
        }
        return booked;
    }

    private void takeTiredAshore(int ship) {
        for (int i = 0; i < people.size(); i++) {
            Person person = people.get(i);
            if (person.aboard == ship && person.isWeary()) {
                person.moveTo(NOTHING);
            }
        }
    }

    private void takeBookedAboard(int land, int ship) {
        for (int i = 0; i < people.size(); i++) {
            Person person = people.get(i);
            if (person.booked == land) {
                person.moveTo(ship);
            }
        }
    }

    // ---- soundness

    private boolean areKeptHoursSound() {
        for (int i = 0; i < archive.kept.count; i++) {
            if (!isKeptHourSound(archive.kept, archive.kept.slotOf(i))) {
                return false;
            }
        }
        return true;
    }

    private boolean isKeptHourSound(Kept kept, int slot) {
        int ship = kept.ships[slot];
        int who = kept.whos[slot];
        boolean isSpoken = isPerson(who) && people.get(who).isSpeaker;
        return ship >= 0 && ship < ships.size()
                && kept.hours[slot] < hour
                && kept.channels[slot] >= 0 && kept.channels[slot] <= 9
                // The least power that sends is 1, and generators must have 1 more.
                && ships.get(ship).powerOf(kept.generators[slot]) >= 2
                && (isSpoken || isTape(who) || who == TONE);
    }

    private boolean areCrewsSound() {
        int crews = 0;
        for (int i = 0; i < ships.size(); i++) {
            crews += countCrew(i);
        }
        return crews == countAboard();
    }

    private static final class Land {
        final int east;
        final int north;
        final int shallows;
        final int[] actHours;
        final int[] actLines;
        final int[] actBans;
        int actCount;
        int evidence;
        int fuel;
        int food;
        int crystal;

        Land(int east, int north, int shallows) {
            this.east = east;
            this.north = north;
            this.shallows = shallows;
            actHours = new int[MOST_ACTS];
            actLines = new int[MOST_ACTS];
            actBans = new int[MOST_ACTS];
            crystal = NOTHING;
        }

        void tellAct(int hour, int line, int forbidden) {
            if (actCount < MOST_ACTS) {
                actHours[actCount] = hour;
                actLines[actCount] = line;
                actBans[actCount] = forbidden;
                actCount++;
            }
        }

        int newestAct(int hour) {
            int newest = NOTHING;
            int since = 0;
            for (int i = 0; i < actCount && i < MOST_ACTS; i++) {
                if (actHours[i] <= hour && actHours[i] >= since) {
                    newest = i;
                    since = actHours[i];
                }
            }
            return newest;
        }

        int lineAt(int hour) {
            int act = newestAct(hour);
            return act < 0 ? FIRST_LINE : actLines[act];
        }

        boolean forbids(int what, int hour) {
            int act = newestAct(hour);
            return act >= 0 && (actBans[act] & what) != 0;
        }

        int tenderCost() {
            return TENDER_PRICE + fuel + food;
        }

        void unloadTo(Ship ship) {
            ship.fuel += fuel;
            ship.food += food;
            if (crystal != NOTHING) {
                ship.channel = crystal;
            }
            fuel = 0;
            food = 0;
            crystal = NOTHING;
        }
    }

    private static final class Town {
        final int land;
        final int east;
        final int north;
        final int thousands;
        int heard;

        Town(int land, int east, int north, int thousands) {
            this.land = land;
            this.east = east;
            this.north = north;
            this.thousands = thousands;
            heard = NOTHING;
        }
    }

    /** Its place is where it was dropped last, or, if it never was, where its ship was told. */
    private static final class Anchor {
        int east;
        int north;
        boolean isDown;
        int holds;
        int dropHour;

        Anchor(int east, int north) {
            this.east = east;
            this.north = north;
        }

        void drop(int atEast, int atNorth, int wind, int hour) {
            east = atEast;
            north = atNorth;
            isDown = true;
            holds = wind;
            dropHour = hour;
        }
    }

    private static final class Generator {
        final int power;
        final int life;
        boolean isOn;
        int ranHours;

        Generator(int power, int life) {
            this.power = power;
            this.life = life;
        }

        boolean canRun(int fuel) {
            return isOn && ranHours < life && fuel >= power;
        }
    }

    private static final class Ship {
        final Anchor anchor;
        final ArrayList<Generator> generators;
        final Programme programme;
        final Spots spots;
        int east;
        int north;
        int fuel;
        int food;
        int salt;
        int power;
        int channel;
        int ranBits;
        boolean wasOnAir;
        int listeners;
        int speaker;
        int hungryHours;
        boolean isMutinous;

        Ship(int east, int north) {
            anchor = new Anchor(east, north);
            generators = new ArrayList<Generator>();
            programme = new Programme();
            spots = new Spots();
            this.east = east;
            this.north = north;
            channel = NOTHING;
            speaker = NOTHING;
        }

        void burnFuel() {
            ranBits = 0;
            for (int i = 0; i < generators.size(); i++) {
                Generator generator = generators.get(i);
                if (generator.canRun(fuel)) {
                    fuel -= generator.power;
                    generator.ranHours++;
                    ranBits |= 1 << i;
                }
            }
        }

        int powerOf(int bits) {
            int sum = 0;
            for (int i = 0; i < generators.size(); i++) {
                if ((bits & (1 << i)) != 0) {
                    sum += generators.get(i).power;
                }
            }
            return sum;
        }

        boolean canSend() {
            return channel != NOTHING && power > 0 && powerOf(ranBits) > power && !isMutinous;
        }

        int output() {
            return Math.max(1, power * (10 - salt) / 10);
        }

        void feed(int crew) {
            hungryHours = food < crew ? hungryHours + 1 : 0;
            food = Math.max(0, food - crew);
            if (hungryHours >= MUTINY_HOURS) {
                isMutinous = true;
            }
        }

        void moveBy(int toEast, int toNorth) {
            east = within(east + toEast);
            north = within(north + toNorth);
        }
    }

    private static final class Programme {
        final int[] hours;
        int lastTape;

        Programme() {
            hours = new int[HOURS_OF_DAY];
            for (int i = 0; i < HOURS_OF_DAY; i++) {
                hours[i] = NOTHING;
            }
            lastTape = NOTHING;
        }

        int at(int ofDay) {
            return ofDay >= 0 && ofDay < HOURS_OF_DAY ? hours[ofDay] : NOTHING;
        }

        int tell(int ofDay, int who) {
            int before = at(ofDay);
            if (ofDay >= 0 && ofDay < HOURS_OF_DAY) {
                hours[ofDay] = who;
            }
            if (isTape(who)) {
                lastTape = who;
            }
            return before;
        }

        boolean hasElsewhere(int who, int ofDay) {
            for (int i = 0; i < HOURS_OF_DAY; i++) {
                if (i != ofDay && hours[i] == who) {
                    return true;
                }
            }
            return false;
        }
    }

    private static final class Spots {
        int left;
        int soldDay;
        int sold;
        int earned;

        Spots() {
        }

        int soldOn(int day) {
            return day == soldDay ? sold : 0;
        }

        void addSold(int day, int many) {
            sold = soldOn(day) + many;
            soldDay = day;
            left += many;
        }

        void playOne(int price) {
            if (left > 0) {
                left--;
                earned += price;
            }
        }

        int takeEarned() {
            int taken = earned;
            earned = 0;
            return taken;
        }
    }

    private static final class Person {
        final int land;
        final boolean isSpeaker;
        int aboard;
        int hoursAboard;
        int booked;

        Person(int land, boolean isSpeaker) {
            this.land = land;
            this.isSpeaker = isSpeaker;
            aboard = NOTHING;
            booked = NOTHING;
        }

        boolean isWeary() {
            return aboard != NOTHING && hoursAboard >= TIRED_HOURS;
        }

        void moveTo(int ship) {
            aboard = ship;
            hoursAboard = 0;
            booked = NOTHING;
        }
    }

    private static final class Recording {
        final int channel;
        final int generators;
        final int who;
        /** The recordings that are told to be ahead of this one, as bits. */
        int ahead;

        Recording(int channel, int generators, int who) {
            this.channel = channel;
            this.generators = generators;
            this.who = who;
        }
    }

    /** The last hours on the air; the slots are used in a ring, so that a new hour takes the place of the oldest. */
    private static final class Kept {
        final int[] hours;
        final int[] ships;
        final int[] channels;
        final int[] generators;
        final int[] whos;
        int oldest;
        int count;

        Kept() {
            hours = new int[MOST_KEPT];
            ships = new int[MOST_KEPT];
            channels = new int[MOST_KEPT];
            generators = new int[MOST_KEPT];
            whos = new int[MOST_KEPT];
        }

        int slotOf(int index) {
            return (oldest + index) % MOST_KEPT;
        }

        void keep(int hour, int ship, int channel, int ranBits, int who) {
            int slot = slotOf(count);
            hours[slot] = hour;
            ships[slot] = ship;
            channels[slot] = channel;
            generators[slot] = ranBits;
            whos[slot] = who;
            if (count < MOST_KEPT) {
                count++;
            } else {
                oldest = slotOf(1);
            }
        }

        int hourAt(int index) {
            return hours[slotOf(index)];
        }

        boolean endsHour(int index) {
            return index + 1 >= count || hourAt(index + 1) != hourAt(index);
        }

        boolean isLike(Recording recording, int index) {
            int slot = slotOf(index);
            return (recording.channel == NOTHING || recording.channel == channels[slot])
                    && (recording.generators == NOTHING || recording.generators == generators[slot])
                    && (recording.who == NOTHING || recording.who == whos[slot]);
        }

        int countLike(Recording recording) {
            int like = 0;
            for (int i = 0; i < count; i++) {
                if (isLike(recording, i)) {
                    like++;
                }
            }
            return like;
        }

        int countNights() {
            int nights = 0;
            for (int i = 0; i < count; i++) {
                if (isNight(hourAt(i))) {
                    nights++;
                }
            }
            return nights;
        }
    }

    /**
     * Kept hours and recordings. Sets of recordings are numbers whose bits tell who is in. A dating is built hour by
     * hour: what may follow depends only on the set that has been dated so far, so of all ways to one set the best is
     * enough.
     */
    private static final class Archive {
        static final int SETS = 1 << MOST_RECORDINGS;
        static final int ORDER_CODES = 1 << (2 * MOST_IN_ORDERS);

        final Kept kept;
        final ArrayList<Recording> recordings;
        final int[] best;
        final int[] needs;
        final boolean[] fits;
        final int[] order;
        final int[] places;
        int toldAhead;

        Archive() {
            kept = new Kept();
            recordings = new ArrayList<Recording>();
            best = new int[SETS];
            needs = new int[SETS];
            fits = new boolean[SETS];
            order = new int[MOST_RECORDINGS];
            places = new int[MOST_RECORDINGS];
        }

        int allRecordings() {
            return (1 << Math.min(recordings.size(), MOST_RECORDINGS)) - 1;
        }

        int aheadOf(int recording) {
            return recording >= 0 && recording < recordings.size() ? recordings.get(recording).ahead : 0;
        }

        boolean isToldAhead(int recording, int other) {
            return (aheadOf(other) & (1 << recording)) != 0;
        }

        /** Whether the other one is ahead of a recording, over any others between. */
        boolean isBehind(int recording, int other) {
            int ahead = aheadOf(recording);
            for (int step = 0; step < MOST_RECORDINGS; step++) {
                ahead |= needsOf(ahead);
            }
            return (ahead & (1 << other)) != 0;
        }

        int needsOf(int set) {
            int ahead = 0;
            for (int i = 0; i < recordings.size(); i++) {
                if ((set & (1 << i)) != 0) {
                    ahead |= recordings.get(i).ahead;
                }
            }
            return ahead;
        }

        int tellAhead(int recording, int other) {
            if (other >= 0 && other < recordings.size()) {
                recordings.get(other).ahead |= 1 << recording;
                toldAhead++;
            }
            return toldAhead;
        }

        int dateOf(int recording, boolean isLatest) {
            int all = allRecordings();
            for (int set = 0; set <= all; set++) {
                best[set] = NEVER;
                needs[set] = needsOf(set);
            }
            best[0] = 0;
            clearFits(all);
            for (int i = 0; i < kept.count; i++) {
                fitKeptHour(i, all);
                if (kept.endsHour(i)) {
                    growDatings(kept.hourAt(i), 1 << recording, isLatest, all);
                    clearFits(all);
                }
            }
            return best[all];
        }

        /** Without a kept hour only the empty set of recordings fits. */
        void clearFits(int all) {
            for (int set = 1; set <= all; set++) {
                fits[set] = false;
            }
            fits[0] = true;
        }

        /** Going down from the greatest set, a set grows only into one already passed: no kept hour serves twice. */
        void fitKeptHour(int index, int all) {
            int like = setLike(index);
            for (int set = all; set >= 0; set--) {
                if (fits[set]) {
                    addEachLike(set, like);
                }
            }
        }

        void addEachLike(int set, int like) {
            for (int i = 0; i < MOST_RECORDINGS; i++) {
                int bit = 1 << i;
                if ((like & bit) != 0 && (set & bit) == 0) {
                    fits[set | bit] = true;
                }
            }
        }

        int setLike(int index) {
            int like = 0;
            for (int i = 0; i < recordings.size(); i++) {
                if (kept.isLike(recordings.get(i), index)) {
                    like |= 1 << i;
                }
            }
            return like;
        }

        /** Going down again, so that what is dated in this hour does not count as dated ahead of it. */
        void growDatings(int hour, int bit, boolean isLatest, int all) {
            for (int dated = all; dated >= 0; dated--) {
                if (best[dated] != NEVER) {
                    growDating(dated, hour, bit, isLatest, all);
                }
            }
        }

        void growDating(int dated, int hour, int bit, boolean isLatest, int all) {
            for (int set = 1; set <= all; set++) {
                if (fits[set] && (set & dated) == 0 && (needs[set] & ~dated) == 0) {
                    int date = (set & bit) != 0 ? hour : best[dated];
                    best[dated | set] = better(best[dated | set], date, isLatest);
                }
            }
        }

        static int better(int date, int other, boolean isLatest) {
            if (date == NEVER || other == NEVER) {
                return Math.max(date, other);
            }
            return isLatest ? Math.max(date, other) : Math.min(date, other);
        }

        boolean areDatesAsOrdersTell() {
            if (recordings.size() > MOST_IN_ORDERS) {
                return true;
            }
            for (int i = 0; i < recordings.size(); i++) {
                if (dateOf(i, false) != dateByOrders(i, false) || dateOf(i, true) != dateByOrders(i, true)) {
                    return false;
                }
            }
            return true;
        }

        int dateByOrders(int recording, boolean isLatest) {
            int date = NEVER;
            int many = recordings.size();
            for (int code = 0; code < ORDER_CODES; code++) {
                if (readOrder(code, many) && isOrderAsTold(many) && isPlaced(many, isLatest)) {
                    date = better(date, kept.hourAt(places[recording]), isLatest);
                }
            }
            return date;
        }

        /** Reads an order out of two bits for each recording; false if it is none, or one that is read otherwise. */
        boolean readOrder(int code, int many) {
            int seen = 0;
            for (int i = 0; i < many && i < MOST_IN_ORDERS; i++) {
                order[i] = (code >> (2 * i)) & 3;
                seen |= 1 << order[i];
            }
            return seen == allRecordings() && (code >> (2 * many)) == 0;
        }

        boolean isOrderAsTold(int many) {
            int dated = 0;
            for (int i = 0; i < many && i < MOST_IN_ORDERS; i++) {
                if ((aheadOf(order[i]) & ~dated) != 0) {
                    return false;
                }
                dated |= 1 << order[i];
            }
            return true;
        }

        /** Places all in their order, each as early as can be, or from the last one back, each as late as can be. */
        boolean isPlaced(int many, boolean isLatest) {
            int placed = 0;
            int done = 0;
            for (int i = 0; i < kept.count && done < many && done < MOST_IN_ORDERS; i++) {
                int index = isLatest ? kept.count - 1 - i : i;
                int next = isLatest ? order[many - 1 - done] : order[done];
                if (canPlace(next, index, placed)) {
                    places[next] = index;
                    placed |= 1 << next;
                    done++;
                }
            }
            return done == many;
        }

        /** Those that are told to be ahead of one another are in order by now, but need hours that differ too. */
        boolean canPlace(int recording, int index, int placed) {
            Recording one = recordings.get(recording);
            if (!kept.isLike(one, index)) {
                return false;
            }
            for (int i = 0; i < recordings.size(); i++) {
                boolean isTold = ((one.ahead >> i) & 1) != 0 || ((recordings.get(i).ahead >> recording) & 1) != 0;
                if (isTold && ((placed >> i) & 1) != 0 && kept.hourAt(places[i]) == kept.hourAt(index)) {
                    return false;
                }
            }
            return true;
        }
    }
}
