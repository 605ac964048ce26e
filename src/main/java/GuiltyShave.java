import java.util.Arrays;
import java.util.NoSuchElementException;

/**
 * A town whose barber shaves only the guilty. The words in capitals are those of the document.
 *
 * All rows are made with the object and used again: only an accepted LAW or WEEK makes new ones.
 */
public final class GuiltyShave {
    public static final int NONE = -1;
    public static final int HIDDEN = -1000000;

    private static final int NO_SORT = -2;
    private static final int SORT_TOWN = 0;
    private static final int SORT_LAW = 1;
    private static final int SORT_WEEK = 2;

    private static final int MOST_BYTES = 240;
    private static final int MOST_PEOPLE = 6;
    private static final int MOST_DEEDS = 8;
    private static final int MOST_LAWS = 4;
    private static final int MOST_WEEKS = 4;
    private static final int MOST_STEPS = 16;
    private static final int MOST_SEEN = 10;
    private static final int MOST_ACTS = 40;
    private static final int MOST_LOG = 60;

    private static final int LAST_DAY = 999;
    private static final int LONGEST_BEARD = 99;
    private static final int MOST_COINS = 999;
    private static final int MOST_GIVEN = 50;
    private static final int MOST_YEARS = 30;
    private static final int MOST_SHARED = 999;
    private static final int FARTHEST_SOON = 60;
    private static final int DAYS_OF_WEEK = 7;
    private static final int ALL_PARTS = 1000000000;
    private static final int PRETENCES = 4;
    private static final int LOOKS = 3;

    private static final int STEP_DEED = 0;
    private static final int STEP_SHAVE = 1;
    private static final int STEP_ATONE = 2;
    private static final int STEP_DAY = 3;

    private final Tape tape;
    private final Town town;
    private final Town draftTown;
    private final LawReader lawReader;
    private final Court court;
    private final Week[] weeks;
    private int weekCount;
    private Week draftWeek;
    private final Life now;
    private final Life trial;
    private final Life kept;
    private boolean hasImage;
    private final Past past;
    private final Sights sights;
    private final Draws draws;
    private int rumour;

    public GuiltyShave() {
        tape = new Tape();
        town = new Town();
        draftTown = new Town();
        lawReader = new LawReader(tape);
        court = new Court(town);
        weeks = new Week[MOST_WEEKS];
        draftWeek = new Week();
        now = new Life(town);
        trial = new Life(town);
        kept = new Life(town);
        past = new Past();
        sights = new Sights(town, court);
        draws = new Draws();
        rumour = 5;
    }

    public int feed(int a, int b, int c, int d, int e) {
        int more = Tape.bytesIn(a) + Tape.bytesIn(b) + Tape.bytesIn(c) + Tape.bytesIn(d) + Tape.bytesIn(e);
        if (tape.length + more > MOST_BYTES) {
            return NONE;
        }
        tape.add(a);
        tape.add(b);
        tape.add(c);
        tape.add(d);
        tape.add(e);
        return tape.length;
    }

    public boolean end(int n) {
        if (n < 0 || n > tape.length) {
            return false;
        }
        tape.length = n;
        return true;
    }

    public int fault(int sort) {
        switch (sort) {
            case SORT_TOWN:
                return draftTown.faultIn(tape);
            case SORT_LAW:
                return lawReader.faultOfTape();
            case SORT_WEEK:
                return draftWeek.faultIn(tape);
            default:
                return NO_SORT;
        }
    }

    public int text(int sort) {
        if (fault(sort) != NONE) {
            return NONE;
        }
        switch (sort) {
            case SORT_TOWN:
                return foundTown();
            case SORT_LAW:
                return addLaw();
            default:
                return addWeek();
        }
    }

    private int foundTown() {
        town.become(draftTown);
        now.begin();
        past.forget();
        sights.forget();
        hasImage = false;
        tape.length = 0;
        return town.people;
    }

    private int addLaw() {
        if (court.laws == MOST_LAWS) {
            return NONE;
        }
        tape.length = 0;
        return court.enact(lawReader.takeDraft());
    }

    private int addWeek() {
        if (weekCount == MOST_WEEKS) {
            return NONE;
        }
        weeks[weekCount] = draftWeek;
        draftWeek = new Week();
        tape.length = 0;
        weekCount++;
        return weekCount - 1;
    }

    public int person(int person, int what) throws NoSuchElementException {
        if (!town.hasPerson(person) || what < 0 || what > 4) {
            throw new NoSuchElementException();
        }
        switch (what) {
            case 0:
                return now.beardOf(person);
            case 1:
                return town.shame[person];
            case 2:
                return town.wish[person];
            case 3:
                return now.shavedOf(person);
            default:
                return now.went(person) ? 1 : 0;
        }
    }

    public int deed(int deed, int what) {
        if (!town.hasDeed(deed)) {
            return NONE;
        }
        switch (what) {
            case 0:
                return town.heavy[deed];
            case 1:
                return town.harm[deed];
            case 2:
                return town.lasts[deed];
            default:
                return NONE;
        }
    }

    public int left(int person, int deed) {
        return town.hasBoth(person, deed) ? now.leftOf(person, deed) : NONE;
    }

    public boolean law(int law) {
        return court.letHold(law);
    }

    public boolean rumour(int v) {
        if (v < 0 || v > 9 || v == rumour) {
            return false;
        }
        rumour = v;
        return true;
    }

    public int commit(int person, int deed) {
        if (!now.mayTakeOn(person, deed)) {
            return NONE;
        }
        past.keep(now);
        now.takeOn(person, deed);
        return now.guiltOf(person);
    }

    public int sell(int person, int other, int deed) {
        if (!now.maySellTo(person, other, deed)) {
            return NONE;
        }
        past.keep(now);
        now.sellTo(person, other, deed);
        return now.leftOf(other, deed);
    }

    public int atone(int person, int deed) {
        if (!now.mayAtoneFor(person, deed)) {
            return NONE;
        }
        past.keep(now);
        now.atoneFor(person, deed);
        return now.guiltOf(person);
    }

    public int shave(int person) {
        if (!now.mayGo(person)) {
            return NONE;
        }
        past.keep(now);
        return goToBarber(now, person) ? 1 : 0;
    }

    private boolean goToBarber(Life life, int person) {
        boolean guilty = court.isGuilty(life, person, life.deedsOf(person));
        life.go(person, guilty);
        return guilty;
    }

    public int give(int n) {
        if (noTown() || n < 1 || n > MOST_GIVEN || now.get(Life.COINS) + n > MOST_COINS) {
            return NONE;
        }
        past.keep(now);
        now.receive(n);
        return now.get(Life.COINS);
    }

    private boolean noTown() {
        return town.people == 0;
    }

    public int day() {
        if (!now.mayPassDay()) {
            return NONE;
        }
        past.keep(now);
        int smooth = now.smooth();
        now.passDay();
        return Integer.bitCount(smooth);
    }

    public int years(int n, long seed) {
        if (noTown() || n < 1 || n > MOST_YEARS || now.get(Life.DAY) + n > LAST_DAY) {
            return NONE;
        }
        draws.begin(seed);
        for (int i = 0; i < n; i++) {
            past.keep(now);
            liveByDraws();
            now.passDay();
        }
        return now.get(Life.DAY);
    }

    private void liveByDraws() {
        int person = draws.draw(town.people);
        int deed = draws.draw(town.deeds);
        if (now.mayTakeOn(person, deed)) {
            now.takeOn(person, deed);
        }
        if (draws.draw(10) < rumour) {
            int other = draws.draw(town.people);
            if (now.mayGo(other)) {
                goToBarber(now, other);
            }
        }
    }

    public int undo() {
        return past.takeBack(now);
    }

    public int log(int i, int what) {
        if (i < 0 || i >= now.logLength() || what < 0 || what > 2) {
            return NONE;
        }
        return now.logged(i, what);
    }

    private Week weekOf(int week) {
        return week >= 0 && week < weekCount ? weeks[week] : null;
    }

    public int step(int week, int i, int what) {
        Week told = weekOf(week);
        if (told == null || i < 0 || i >= told.length) {
            return HIDDEN;
        }
        switch (what) {
            case 0:
                return told.kinds[i];
            case 1:
                return told.people[i];
            case 2:
                return told.deeds[i];
            default:
                return HIDDEN;
        }
    }

    public int run(int week, int what) {
        Week told = weekOf(week);
        if (told == null || noTown() || what < 0 || what > 1) {
            return HIDDEN;
        }
        trial.copy(now);
        int done = 0;
        while (done < told.length && mayTakeStep(trial, told, done)) {
            takeStep(trial, told, done);
            done++;
        }
        if (what == 1) {
            return trial.get(Life.HARM) - now.get(Life.HARM);
        }
        return done == told.length ? NONE : done;
    }

    public int perform(int week) {
        Week told = weekOf(week);
        if (told == null || noTown()) {
            return NONE;
        }
        int done = 0;
        while (done < told.length && mayTakeStep(now, told, done)) {
            past.keep(now);
            takeStep(now, told, done);
            done++;
        }
        return done;
    }

    private boolean mayTakeStep(Life life, Week week, int i) {
        switch (week.kinds[i]) {
            case STEP_DEED:
                return life.mayTakeOn(week.people[i], week.deeds[i]);
            case STEP_SHAVE:
                return life.mayGo(week.people[i]);
            case STEP_ATONE:
                return life.mayAtoneFor(week.people[i], week.deeds[i]);
            default:
                return life.mayPassDay();
        }
    }

    private void takeStep(Life life, Week week, int i) {
        switch (week.kinds[i]) {
            case STEP_DEED:
                life.takeOn(week.people[i], week.deeds[i]);
                break;
            case STEP_SHAVE:
                goToBarber(life, week.people[i]);
                break;
            case STEP_ATONE:
                life.atoneFor(week.people[i], week.deeds[i]);
                break;
            default:
                life.passDay();
                break;
        }
    }

    public int skin(int person, int what) {
        if (!town.hasPerson(person)) {
            return HIDDEN;
        }
        int bits = now.deedsOf(person);
        switch (what) {
            case 0:
                return town.weightOf(bits);
            case 1:
                return court.readIn(now, person, 0, town.weightOf(bits), Integer.bitCount(bits));
            case 2:
                return court.isGuilty(now, person, bits) ? 1 : 0;
            default:
                return HIDDEN;
        }
    }

    /** LEAST is ALL for one: a DEED that he HAS costs nothing there, but is one more, so it is never among them. */
    public int least(int person, int what) {
        return town.hasPerson(person) ? cheapest(1 << person, what) : NONE;
    }

    public int cover(int people, int what) {
        if (people < 1 || people >= 1 << town.people) {
            return NONE;
        }
        return cheapest(people, what);
    }

    private int cheapest(int people, int what) {
        if (what < 0 || what > 1) {
            return NONE;
        }
        int best = NONE;
        int bestHarm = NONE;
        int end = 1 << town.deeds;
        for (int bits = 0; bits < end; bits++) {
            int harm = harmAmong(people, bits);
            boolean better = best == NONE || harm < bestHarm
                    || harm == bestHarm && Integer.bitCount(bits) < Integer.bitCount(best);
            if (better && allGuiltyWith(people, bits)) {
                best = bits;
                bestHarm = harm;
            }
        }
        return what == 0 ? best : bestHarm;
    }

    private int harmAmong(int people, int bits) {
        int harm = 0;
        for (int person = 0; person < town.people; person++) {
            if ((people >> person & 1) == 1) {
                harm += town.harmOf(bits & ~now.deedsOf(person));
            }
        }
        return harm;
    }

    private boolean allGuiltyWith(int people, int bits) {
        for (int person = 0; person < town.people; person++) {
            if ((people >> person & 1) == 1 && !court.isGuilty(now, person, bits | now.deedsOf(person))) {
                return false;
            }
        }
        return true;
    }

    public int soon(int person) {
        if (!town.hasPerson(person)) {
            return NONE;
        }
        for (int days = 0; days <= FARTHEST_SOON; days++) {
            if (!court.isGuiltyIn(now, person, days)) {
                return days;
            }
        }
        return NONE;
    }

    public int clean() {
        if (noTown()) {
            return NONE;
        }
        int longest = 0;
        for (int person = 0; person < town.people; person++) {
            for (int deed = 0; deed < town.deeds; deed++) {
                longest = Math.max(longest, now.leftOf(person, deed));
            }
        }
        return longest;
    }

    public int bargain(int person, int other) {
        if (!town.hasPerson(person) || !town.hasPerson(other) || person == other) {
            return NONE;
        }
        int his = now.deedsOf(person);
        int others = now.deedsOf(other);
        for (int deed = 0; deed < town.deeds; deed++) {
            int bit = 1 << deed;
            if ((his & ~others & bit) != 0
                    && court.isGuilty(now, person, his & ~bit)
                    && court.isGuilty(now, other, others | bit)) {
                return deed;
            }
        }
        return NONE;
    }

    public int seen(int person, int beard, boolean guilty) {
        if (!town.hasPerson(person) || beard < 0 || beard > LONGEST_BEARD || sights.count == MOST_SEEN) {
            return NONE;
        }
        return sights.add(person, beard, guilty);
    }

    public int sets(int person, int i) {
        if (!town.hasPerson(person) || i < NONE) {
            return NONE;
        }
        return sights.fittingSet(person, i);
    }

    public int ask(int person) {
        return town.hasPerson(person) ? sights.bestBeard(person) : NONE;
    }

    public int game(int person, int x, int y, int what) {
        if (!town.hasPerson(person) || x < 0 || x >= PRETENCES || y < 0 || y >= LOOKS || what < 0 || what > 1) {
            return HIDDEN;
        }
        int verdicts = verdictsOn(person);
        return what == 0 ? gainOfPerson(verdicts, x, y) : gainOfBarber(verdicts, x, y);
    }

    /** Whether he is GUILTY for each x and y: bit LOOKS times x and y. */
    private int verdictsOn(int person) {
        int bits = now.deedsOf(person);
        int guilt = town.weightOf(bits);
        int verdicts = 0;
        for (int x = 0; x < PRETENCES; x++) {
            for (int y = 0; y < LOOKS; y++) {
                int shown = Math.max(0, guilt + 2 * x - 3 * y);
                if (court.readIn(now, person, 0, shown, Integer.bitCount(bits)) > 0) {
                    verdicts |= 1 << LOOKS * x + y;
                }
            }
        }
        return verdicts;
    }

    private static int gainOfPerson(int verdicts, int x, int y) {
        return 6 * (verdicts >> LOOKS * x + y & 1) - x;
    }

    private static int gainOfBarber(int verdicts, int x, int y) {
        boolean right = (verdicts >> LOOKS * x + y & 1) == (verdicts & 1);
        return (right ? 5 : 0) - y;
    }

    public int rests(int person, int i) {
        if (!town.hasPerson(person)) {
            return NONE;
        }
        int verdicts = verdictsOn(person);
        int found = 0;
        for (int x = 0; x < PRETENCES; x++) {
            for (int y = 0; y < LOOKS; y++) {
                if (isRest(verdicts, x, y)) {
                    if (found == i) {
                        return 10 * x + y;
                    }
                    found++;
                }
            }
        }
        return i == NONE ? found : NONE;
    }

    private static boolean isRest(int verdicts, int x, int y) {
        for (int other = 0; other < PRETENCES; other++) {
            if (gainOfPerson(verdicts, other, y) > gainOfPerson(verdicts, x, y)) {
                return false;
            }
        }
        for (int other = 0; other < LOOKS; other++) {
            if (gainOfBarber(verdicts, x, other) > gainOfBarber(verdicts, x, y)) {
                return false;
            }
        }
        return true;
    }

    public int odds(int person, int chance) {
        if (!town.hasPerson(person) || chance < 0 || chance > 100) {
            return NONE;
        }
        int his = now.deedsOf(person);
        long guilty = 0;
        int end = 1 << town.deeds;
        for (int noticed = 0; noticed < end; noticed++) {
            if ((noticed & ~his) == 0) {
                long part = partOf(his, noticed, chance);
                if (part > 0 && court.isGuilty(now, person, noticed)) {
                    guilty += part;
                }
            }
        }
        return (int) guilty;
    }

    /** How many parts notice just these of his DEEDS. */
    private long partOf(int his, int noticed, int chance) {
        long part = ALL_PARTS;
        for (int deed = 0; deed < town.deeds; deed++) {
            if ((his >> deed & 1) == 1) {
                long overlooked = part * chance / 100;
                part = (noticed >> deed & 1) == 1 ? part - overlooked : overlooked;
            }
        }
        return part;
    }

    public int shares(int person, int c) {
        if (!town.hasPerson(person) || c < 0 || c > MOST_SHARED) {
            return NONE;
        }
        int together = 0;
        for (int other = 0; other < town.people; other++) {
            together += now.guiltOf(other);
        }
        return together == 0 ? 0 : c * now.guiltOf(person) / together;
    }

    public int owners(int deed) {
        if (!town.hasDeed(deed)) {
            return NONE;
        }
        int bits = 0;
        for (int person = 0; person < town.people; person++) {
            if (now.leftOf(person, deed) > 0) {
                bits |= 1 << person;
            }
        }
        return bits;
    }

    public int wish(int person) {
        return town.hasPerson(person) ? daysToWish(person) : NONE;
    }

    private int daysToWish(int person) {
        return Math.floorMod(town.wish[person] - now.get(Life.DAY), DAYS_OF_WEEK);
    }

    public int all(int what) {
        if (noTown() || what < 0) {
            return NONE;
        }
        if (what < 6) {
            return firstOfMost(what);
        }
        switch (what) {
            case 6:
                return guiltyPeople();
            case 7:
                return now.smooth();
            case 8:
                return innocentPeople();
            case 9:
                return servedPeople();
            default:
                return NONE;
        }
    }

    private int firstOfMost(int what) {
        int best = 0;
        int end = what < 4 ? town.people : town.deeds;
        for (int i = 1; i < end; i++) {
            if (measure(what, i) > measure(what, best)) {
                best = i;
            }
        }
        return best;
    }

    /** By what all(what) chooses: the least is the most of the negative. */
    private int measure(int what, int i) {
        switch (what) {
            case 0:
                return now.beardOf(i);
            case 1:
                return now.guiltOf(i);
            case 2:
                return -town.shame[i];
            case 3:
                return now.shavedOf(i);
            case 4:
                return town.heavy[i];
            default:
                return -town.harm[i];
        }
    }

    private int guiltyPeople() {
        int bits = 0;
        for (int person = 0; person < town.people; person++) {
            if (court.isGuiltyIn(now, person, 0)) {
                bits |= 1 << person;
            }
        }
        return bits;
    }

    private int innocentPeople() {
        int bits = 0;
        for (int person = 0; person < town.people; person++) {
            if (now.deedsOf(person) == 0) {
                bits |= 1 << person;
            }
        }
        return bits;
    }

    private int servedPeople() {
        int served = 0;
        for (int person = 0; person < town.people; person++) {
            if (court.isGuiltyIn(now, person, daysToWish(person))) {
                served++;
            }
        }
        return served;
    }

    public int image() {
        if (noTown()) {
            return NONE;
        }
        kept.copy(now);
        hasImage = true;
        return now.get(Life.DAY);
    }

    public int back() {
        if (!hasImage) {
            return NONE;
        }
        now.copy(kept);
        past.forget();
        return now.get(Life.DAY);
    }

    public int count(int what) {
        switch (what) {
            case 0:
                return town.people;
            case 1:
                return town.deeds;
            case 2:
                return court.laws;
            case 3:
                return weekCount;
            case 4:
                return tape.length;
            case 5:
                return court.holding;
            case 11:
                return rumour;
            case 12:
                return sights.count;
            case 14:
                return past.acts;
            default:
                return countOfLife(what);
        }
    }

    private int countOfLife(int what) {
        switch (what) {
            case 6:
                return now.get(Life.DAY);
            case 7:
                return now.get(Life.COINS);
            case 8:
                return now.get(Life.HARM);
            case 9:
                return now.get(Life.NICKS);
            case 10:
                return now.get(Life.PLEASED);
            case 13:
                return now.logLength();
            default:
                return HIDDEN;
        }
    }

    /** The bytes that were fed, and the place in them up to which a reader came. */
    private static final class Tape {
        static final int END = -1;

        final char[] bytes = new char[MOST_BYTES];
        int length;
        int at;
        int number;

        static int bytesIn(int word) {
            int bytes = 0;
            for (int shift = 24; shift >= 0; shift -= 8) {
                if ((word >>> shift & 255) != 0) {
                    bytes++;
                }
            }
            return bytes;
        }

        void add(int word) {
            for (int shift = 24; shift >= 0; shift -= 8) {
                int sign = word >>> shift & 255;
                if (sign != 0 && length < MOST_BYTES) {
                    bytes[length] = (char) sign;
                    length++;
                }
            }
        }

        /** The next sign that is no blank; it is not passed. */
        int next() {
            while (at < length && bytes[at] == ' ') {
                at++;
            }
            return at < length ? bytes[at] : END;
        }

        void pass() {
            at++;
        }

        boolean passed(char sign) {
            if (next() != sign) {
                return false;
            }
            at++;
            return true;
        }

        boolean isDigitHere() {
            return at < length && bytes[at] >= '0' && bytes[at] <= '9';
        }

        /** Reads a number; if it can't be, the place is at the FAULT: one digit too many goes ahead of the bounds. */
        boolean readsNumber(int mostDigits, int low, int high) {
            next();
            if (!isDigitHere()) {
                return false;
            }
            number = 0;
            for (int digits = 0; digits < mostDigits && isDigitHere(); digits++) {
                number = number * 10 + bytes[at] - '0';
                at++;
            }
            if (isDigitHere()) {
                return false;
            }
            if (number < low || number > high) {
                at--;
                return false;
            }
            return true;
        }

        boolean readsDigit() {
            next();
            if (!isDigitHere()) {
                return false;
            }
            number = bytes[at] - '0';
            at++;
            return true;
        }
    }

    /** What the TEXT of a TOWN tells. */
    private static final class Town {
        static final int RULES = 0;
        static final int PERSON = 1;
        static final int DEED = 2;
        static final int KIND_ITEMS = 3;
        static final int MOST_CLAUSES = 1 + MOST_PEOPLE + MOST_DEEDS;

        // Rows of three a kind of CLAUSE; a blank, which is never a next sign, fills what the RULES lack.
        static final String LETTERS = "nc bswkhl";
        static final int[] LOWEST = {0, 0, 0, 0, 0, 0, 1, 0, 1};
        static final int[] HIGHEST = {9, 99, 0, 99, 9, 6, 9, 9, 9};
        static final int[] UNTOLD = {1, 20, 0, 0, 3, 0, 3, 2, 5};

        final int[] beard = new int[MOST_PEOPLE];
        final int[] shame = new int[MOST_PEOPLE];
        final int[] wish = new int[MOST_PEOPLE];
        final int[] heavy = new int[MOST_DEEDS];
        final int[] harm = new int[MOST_DEEDS];
        final int[] lasts = new int[MOST_DEEDS];
        final int[] items = new int[KIND_ITEMS];
        int people;
        int deeds;
        int nick;
        int coins;
        boolean hasRules;

        boolean hasPerson(int person) {
            return person >= 0 && person < people;
        }

        boolean hasDeed(int deed) {
            return deed >= 0 && deed < deeds;
        }

        boolean hasBoth(int person, int deed) {
            return hasPerson(person) && hasDeed(deed);
        }

        int weightOf(int bits) {
            int weight = 0;
            for (int deed = 0; deed < deeds; deed++) {
                if ((bits >> deed & 1) == 1) {
                    weight += heavy[deed];
                }
            }
            return weight;
        }

        int harmOf(int bits) {
            int together = 0;
            for (int deed = 0; deed < deeds; deed++) {
                if ((bits >> deed & 1) == 1) {
                    together += harm[deed];
                }
            }
            return together;
        }

        void become(Town other) {
            System.arraycopy(other.beard, 0, beard, 0, MOST_PEOPLE);
            System.arraycopy(other.shame, 0, shame, 0, MOST_PEOPLE);
            System.arraycopy(other.wish, 0, wish, 0, MOST_PEOPLE);
            System.arraycopy(other.heavy, 0, heavy, 0, MOST_DEEDS);
            System.arraycopy(other.harm, 0, harm, 0, MOST_DEEDS);
            System.arraycopy(other.lasts, 0, lasts, 0, MOST_DEEDS);
            people = other.people;
            deeds = other.deeds;
            nick = other.nick;
            coins = other.coins;
        }

        /** Becomes what the TAPE tells, as far as it goes: the FAULT, or NONE. */
        int faultIn(Tape tape) {
            tape.at = 0;
            people = 0;
            deeds = 0;
            hasRules = false;
            nick = UNTOLD[0];
            coins = UNTOLD[1];
            boolean whole = readsClauses(tape) && tape.next() == Tape.END && people > 0 && deeds > 0;
            return whole ? NONE : tape.at;
        }

        // One CLAUSE more than there can be is tried: so a surplus one is the FAULT, not the ; ahead of it.
        private boolean readsClauses(Tape tape) {
            for (int clauses = 0; clauses <= MOST_CLAUSES; clauses++) {
                if (clauses > 0 && !tape.passed(';')) {
                    return true;
                }
                int kind = kindOf(tape.next());
                if (kind == NONE) {
                    return false;
                }
                tape.pass();
                if (!readsItems(tape, kind)) {
                    return false;
                }
                settle(kind);
            }
            return true;
        }

        /** The kind of CLAUSE that a sign begins; NONE, if there can't be another of it. */
        private int kindOf(int sign) {
            switch (sign) {
                case 's':
                    return hasRules ? NONE : RULES;
                case 'p':
                    return people < MOST_PEOPLE ? PERSON : NONE;
                case 'd':
                    return deeds < MOST_DEEDS ? DEED : NONE;
                default:
                    return NONE;
            }
        }

        private boolean readsItems(Tape tape, int kind) {
            for (int item = 0; item < KIND_ITEMS; item++) {
                items[item] = UNTOLD[kind * KIND_ITEMS + item];
            }
            int told = 0;
            for (int i = 0; i <= KIND_ITEMS; i++) {
                int sign = tape.next();
                if (sign == ';' || sign == Tape.END) {
                    return true;
                }
                int item = itemOf(kind, sign);
                if (item == NONE || (told >> item & 1) == 1) {
                    return false;
                }
                tape.pass();
                int place = kind * KIND_ITEMS + item;
                if (!tape.readsNumber(2, LOWEST[place], HIGHEST[place])) {
                    return false;
                }
                items[item] = tape.number;
                told |= 1 << item;
            }
            return false;
        }

        private static int itemOf(int kind, int sign) {
            for (int item = 0; item < KIND_ITEMS; item++) {
                if (LETTERS.charAt(kind * KIND_ITEMS + item) == sign) {
                    return item;
                }
            }
            return NONE;
        }

        private void settle(int kind) {
            if (kind == RULES) {
                hasRules = true;
                nick = items[0];
                coins = items[1];
            } else if (kind == PERSON) {
                beard[people] = items[0];
                shame[people] = items[1];
                wish[people] = items[2];
                people++;
            } else {
                heavy[deeds] = items[0];
                harm[deeds] = items[1];
                lasts[deeds] = items[2];
                deeds++;
            }
        }
    }

    /** The STEPS of a WEEK; NONE stands for a digit that a STEP has not. */
    private static final class Week {
        static final String LETTERS = "dsan";

        final int[] kinds = new int[MOST_STEPS];
        final int[] people = new int[MOST_STEPS];
        final int[] deeds = new int[MOST_STEPS];
        int length;

        /** Becomes what the TAPE tells, as far as it goes: the FAULT, or NONE. */
        int faultIn(Tape tape) {
            tape.at = 0;
            length = 0;
            return readsSteps(tape) && tape.next() == Tape.END ? NONE : tape.at;
        }

        private boolean readsSteps(Tape tape) {
            for (int i = 0; i < MOST_STEPS; i++) {
                if (i > 0 && !tape.passed(';')) {
                    return true;
                }
                if (!readsStep(tape, i)) {
                    return false;
                }
                length++;
            }
            return true;
        }

        private boolean readsStep(Tape tape, int i) {
            int sign = tape.next();
            int kind = sign == Tape.END ? NONE : LETTERS.indexOf((char) sign);
            if (kind < 0) {
                return false;
            }
            tape.pass();
            kinds[i] = kind;
            people[i] = NONE;
            deeds[i] = NONE;
            if (kind == STEP_DAY) {
                return true;
            }
            if (!tape.readsDigit()) {
                return false;
            }
            people[i] = tape.number;
            if (kind == STEP_SHAVE) {
                return true;
            }
            if (!tape.readsDigit()) {
                return false;
            }
            deeds[i] = tape.number;
            return true;
        }
    }

    /** A LAW as signs in the order in which they are worked out: what is joined goes ahead of what joins it. */
    private static final class Law {
        static final String LETTERS = "gsbnwt";
        static final int GUILT = 0;
        static final int SHAME = 1;
        static final int BEARD = 2;
        static final int DEEDS = 3;
        static final int WEEKDAY = 4;
        static final int SHAVED = 5;
        static final int LETTER_COUNT = 6;

        // The signs that join, in the order of their numbers from OR on; / is the last of them.
        static final String JOINTS = "|&!=<>+-*/";
        static final int OR = 6;
        static final int AND = 7;
        static final int NOT = 8;
        static final int EQUAL = 9;
        static final int LESS = 10;
        static final int MORE = 11;
        static final int PLUS = 12;
        static final int MINUS = 13;
        static final int TIMES = 14;
        static final int NUMBER = 16;

        // The shortest CLAUSE with its ; has four bytes.
        static final int MOST_CLAUSES = MOST_BYTES / 4 + 1;
        // Six levels with two that wait at each, and what one UNIT needs, stay well below.
        static final int MOST_WAITING = 64;
        static final int BOUND = 1000000;

        final int[] signs = new int[MOST_BYTES];
        final int[] conditions = new int[MOST_CLAUSES];
        final int[] sums = new int[MOST_CLAUSES];
        final int[] waiting = new int[MOST_WAITING];
        int length;
        int clauses;
        boolean heedsBeard;

        void clear() {
            length = 0;
            clauses = 0;
            heedsBeard = false;
        }

        void add(int sign) {
            if (length < MOST_BYTES) {
                signs[length] = sign;
                length++;
            }
            if (sign == BEARD) {
                heedsBeard = true;
            }
        }

        /** A CLAUSE without a CONDITION has its SUM begin where the CONDITION would. */
        void addClause(int condition, int sum) {
            if (clauses < MOST_CLAUSES) {
                conditions[clauses] = condition;
                sums[clauses] = sum;
                clauses++;
            }
        }

        int worth(int[] letters) {
            for (int i = 0; i < clauses; i++) {
                if (conditions[i] == sums[i] || valueOf(conditions[i], sums[i], letters) != 0) {
                    int end = i + 1 < clauses ? conditions[i + 1] : length;
                    return valueOf(sums[i], end, letters);
                }
            }
            return 0;
        }

        private int valueOf(int from, int to, int[] letters) {
            int top = 0;
            for (int i = from; i < to; i++) {
                int sign = signs[i];
                if (sign >= NUMBER || sign < LETTER_COUNT) {
                    if (top < MOST_WAITING) {
                        waiting[top] = sign >= NUMBER ? sign - NUMBER : letters[sign];
                        top++;
                    }
                } else if (sign == NOT) {
                    if (top > 0) {
                        waiting[top - 1] = 1 - waiting[top - 1];
                    }
                } else if (top > 1) {
                    top--;
                    waiting[top - 1] = joined(sign, waiting[top - 1], waiting[top]);
                }
            }
            return top > 0 ? waiting[0] : 0;
        }

        private static int joined(int sign, long a, long b) {
            long value;
            switch (sign) {
                case OR:
                    value = a | b;
                    break;
                case AND:
                    value = a & b;
                    break;
                case EQUAL:
                    value = a == b ? 1 : 0;
                    break;
                case LESS:
                    value = a < b ? 1 : 0;
                    break;
                case MORE:
                    value = a > b ? 1 : 0;
                    break;
                case PLUS:
                    value = a + b;
                    break;
                case MINUS:
                    value = a - b;
                    break;
                case TIMES:
                    value = a * b;
                    break;
                default:
                    value = b == 0 ? 0 : a / b;
                    break;
            }
            return (int) (value > BOUND ? BOUND : value < -BOUND ? -BOUND : value);
        }
    }

    /** Reads the TAPE as a LAW; each method answers whether its part stands there, else the TAPE is at the FAULT. */
    private static final class LawReader {
        static final int MOST_WITHIN = 6;
        static final int MOST_DIGITS = 4;

        // What is made of what: a CONDITION of TRUTHS, a TRUTH of UNITS, a UNIT of SUMS, a SUM of TERMS, these of ATOMS.
        static final int CONDITION = 0;
        static final int UNIT = 2;
        static final int SUM = 3;
        static final int ATOM = 5;

        // In which of these each of Law.JOINTS joins the next; ! joins nothing.
        static final int[] JOINS_IN = {0, 1, NONE, 2, 2, 2, 3, 3, 4, 4};

        final Tape tape;
        Law draft = new Law();

        LawReader(Tape tape) {
            this.tape = tape;
        }

        Law takeDraft() {
            Law read = draft;
            draft = new Law();
            return read;
        }

        int faultOfTape() {
            tape.at = 0;
            draft.clear();
            boolean well = true;
            boolean more = true;
            for (int i = 0; i < Law.MOST_CLAUSES && well && more; i++) {
                well = tape.passed('y') && tape.passed(':') && readsClause();
                more = well && tape.passed(';');
            }
            return well && tape.next() == Tape.END ? NONE : tape.at;
        }

        /** Only behind a first SUM it is seen whether that was all or a CONDITION's beginning. */
        private boolean readsClause() {
            int begin = draft.length;
            int sign = tape.next();
            boolean begun = sign != '!' && sign != '(';
            if (begun) {
                if (!readsJoined(SUM, 0, false)) {
                    return false;
                }
                if (jointIn(UNIT) == NONE) {
                    draft.addClause(begin, begin);
                    return true;
                }
            }
            if (!readsJoined(CONDITION, 0, begun) || !tape.passed('?')) {
                return false;
            }
            draft.addClause(begin, draft.length);
            return readsJoined(SUM, 0, false);
        }

        /** Begun: the first SUM of its first UNIT has been read. */
        private boolean readsJoined(int level, int within, boolean begun) {
            if (level == UNIT) {
                return readsUnit(within, begun);
            }
            if (level >= ATOM) {
                return readsAtom(within);
            }
            if (!readsJoined(level + 1, within, begun)) {
                return false;
            }
            int joint = jointIn(level);
            for (int i = 0; i < MOST_BYTES && joint != NONE; i++) {
                tape.pass();
                if (!readsJoined(level + 1, within, false)) {
                    return false;
                }
                draft.add(joint);
                joint = jointIn(level);
            }
            return true;
        }

        /** The next sign as what joins there; NONE, if it does not. */
        private int jointIn(int level) {
            int joint = indexIn(Law.JOINTS);
            return joint >= 0 && JOINS_IN[joint] == level ? Law.OR + joint : NONE;
        }

        private int indexIn(String signs) {
            int sign = tape.next();
            return sign == Tape.END ? NONE : signs.indexOf((char) sign);
        }

        private boolean readsUnit(int within, boolean begun) {
            if (!begun) {
                int sign = tape.next();
                if (sign == '!' || sign == '(') {
                    return readsInner(sign, within);
                }
                if (!readsJoined(SUM, within, false)) {
                    return false;
                }
            }
            int comparison = jointIn(UNIT);
            if (comparison == NONE) {
                return false;
            }
            tape.pass();
            if (!readsJoined(SUM, within, false)) {
                return false;
            }
            draft.add(comparison);
            return true;
        }

        private boolean readsAtom(int within) {
            int letter = indexIn(Law.LETTERS);
            if (letter >= 0) {
                tape.pass();
                draft.add(letter);
                return true;
            }
            if (tape.next() == '[') {
                return readsInner('[', within);
            }
            if (!tape.readsNumber(MOST_DIGITS, 0, 9999)) {
                return false;
            }
            draft.add(Law.NUMBER + tape.number);
            return true;
        }

        /** What one of ( [ ! begins: the only way to a deeper level. */
        private boolean readsInner(int sign, int within) {
            if (within >= MOST_WITHIN) {
                return false;
            }
            tape.pass();
            if (sign == '(') {
                return readsJoined(CONDITION, within + 1, false) && tape.passed(')');
            }
            if (sign == '[') {
                return readsJoined(SUM, within + 1, false) && tape.passed(']');
            }
            if (!readsUnit(within + 1, false)) {
                return false;
            }
            draft.add(Law.NOT);
            return true;
        }
    }

    /** The LAWS, which of them holds, and what the barber READS by it. */
    private static final class Court {
        static final int MOST_READ = 99;

        final Town town;
        final Law[] books = new Law[MOST_LAWS];
        final int[] letters = new int[Law.LETTER_COUNT];
        int laws;
        int holding = NONE;

        Court(Town town) {
            this.town = town;
        }

        int enact(Law law) {
            if (laws == MOST_LAWS) {
                return NONE;
            }
            books[laws] = law;
            laws++;
            return laws - 1;
        }

        boolean letHold(int law) {
            if (law < NONE || law >= laws) {
                return false;
            }
            holding = law;
            return true;
        }

        private Law book() {
            return holding < 0 || holding >= laws ? null : books[holding];
        }

        boolean heedsBeard() {
            Law law = book();
            return law != null && law.heedsBeard;
        }

        int read(int person, int guilt, int deeds, int beard, int day, int shaved) {
            Law law = book();
            int worth = guilt - town.shame[person];
            if (law != null) {
                letters[Law.GUILT] = guilt;
                letters[Law.SHAME] = town.shame[person];
                letters[Law.BEARD] = beard;
                letters[Law.DEEDS] = deeds;
                letters[Law.WEEKDAY] = day % DAYS_OF_WEEK;
                letters[Law.SHAVED] = shaved;
                worth = law.worth(letters);
            }
            return Math.max(-MOST_READ, Math.min(MOST_READ, worth));
        }

        /** READ in so many DAYS, nobody doing a thing, but by this GUILT and as many DEEDS. */
        int readIn(Life life, int person, int days, int guilt, int deeds) {
            int beard = Math.min(LONGEST_BEARD, life.beardOf(person) + days);
            return read(person, guilt, deeds, beard, life.get(Life.DAY) + days, life.shavedOf(person));
        }

        boolean isGuilty(Life life, int person, int bits) {
            return read(person, town.weightOf(bits), Integer.bitCount(bits),
                    life.beardOf(person), life.get(Life.DAY), life.shavedOf(person)) > 0;
        }

        boolean isGuiltyIn(Life life, int person, int days) {
            int bits = life.deedsIn(person, days);
            return readIn(life, person, days, town.weightOf(bits), Integer.bitCount(bits)) > 0;
        }
    }

    /** All that changes by ACTS: one row, so that it is kept and brought back at once, and the LOG. */
    private static final class Life {
        static final int BEARDS = 0;
        static final int SHAVED = MOST_PEOPLE;
        static final int LEFT = 2 * MOST_PEOPLE;
        static final int WENT = LEFT + MOST_PEOPLE * MOST_DEEDS;
        static final int SMOOTHED = WENT + 1;
        static final int HARM = WENT + 2;
        static final int NICKS = WENT + 3;
        static final int PLEASED = WENT + 4;
        static final int COINS = WENT + 5;
        static final int DAY = WENT + 6;
        static final int ROW = WENT + 7;

        static final int MOST_TOLD = 9999;
        static final int MOST_TIMES = 999;
        static final int SALE = 1;
        static final int PENANCE = 2;

        // A DAY's place is its number modulo these: what ACTS can bring back (60 and 40) is never written over.
        static final int PLACES = 128;
        static final int ENTRY = 3;

        final Town town;
        final int[] row = new int[ROW];
        final int[] entries = new int[PLACES * ENTRY];

        Life(Town town) {
            this.town = town;
        }

        void begin() {
            Arrays.fill(row, 0);
            for (int person = 0; person < town.people; person++) {
                row[BEARDS + person] = town.beard[person];
            }
            row[COINS] = town.coins;
        }

        void copy(Life other) {
            System.arraycopy(other.row, 0, row, 0, ROW);
            System.arraycopy(other.entries, 0, entries, 0, PLACES * ENTRY);
        }

        int get(int place) {
            return row[place];
        }

        int beardOf(int person) {
            return row[BEARDS + person];
        }

        int shavedOf(int person) {
            return row[SHAVED + person];
        }

        int leftOf(int person, int deed) {
            return row[LEFT + person * MOST_DEEDS + deed];
        }

        private void setLeft(int person, int deed, int days) {
            row[LEFT + person * MOST_DEEDS + deed] = days;
        }

        boolean went(int person) {
            return (row[WENT] >> person & 1) == 1;
        }

        int deedsOf(int person) {
            return deedsIn(person, 0);
        }

        /** The DEEDS (bits) that he still HAS in so many DAYS. */
        int deedsIn(int person, int days) {
            int bits = 0;
            for (int deed = 0; deed < town.deeds; deed++) {
                if (leftOf(person, deed) > days) {
                    bits |= 1 << deed;
                }
            }
            return bits;
        }

        int guiltOf(int person) {
            return town.weightOf(deedsOf(person));
        }

        int smooth() {
            int bits = 0;
            for (int person = 0; person < town.people; person++) {
                if (beardOf(person) == 0) {
                    bits |= 1 << person;
                }
            }
            return bits;
        }

        boolean mayTakeOn(int person, int deed) {
            return town.hasBoth(person, deed) && leftOf(person, deed) == 0;
        }

        void takeOn(int person, int deed) {
            setLeft(person, deed, town.lasts[deed]);
            row[HARM] = Math.min(MOST_TOLD, row[HARM] + town.harm[deed]);
        }

        boolean maySellTo(int person, int other, int deed) {
            return town.hasBoth(person, deed) && town.hasPerson(other) && person != other
                    && leftOf(person, deed) > 0 && leftOf(other, deed) == 0 && row[COINS] >= SALE;
        }

        void sellTo(int person, int other, int deed) {
            setLeft(other, deed, leftOf(person, deed));
            setLeft(person, deed, 0);
            row[COINS] -= SALE;
        }

        boolean mayAtoneFor(int person, int deed) {
            return town.hasBoth(person, deed) && leftOf(person, deed) > 0 && row[COINS] >= PENANCE;
        }

        void atoneFor(int person, int deed) {
            setLeft(person, deed, 0);
            row[COINS] -= PENANCE;
        }

        boolean mayGo(int person) {
            return town.hasPerson(person) && !went(person);
        }

        void go(int person, boolean guilty) {
            row[WENT] |= 1 << person;
            if (guilty) {
                row[BEARDS + person] = 0;
                row[SHAVED + person] = Math.min(MOST_TIMES, row[SHAVED + person] + 1);
                row[SMOOTHED] |= 1 << person;
            } else {
                row[NICKS] = Math.min(MOST_TIMES, row[NICKS] + 1);
                row[COINS] = Math.max(0, row[COINS] - town.nick);
            }
        }

        void receive(int coins) {
            row[COINS] += coins;
        }

        boolean mayPassDay() {
            return town.people > 0 && row[DAY] < LAST_DAY;
        }

        void passDay() {
            int smooth = smooth();
            write(smooth);
            row[PLEASED] = Math.min(MOST_TOLD, row[PLEASED] + wishersAmong(smooth));
            for (int person = 0; person < town.people; person++) {
                row[BEARDS + person] = Math.min(LONGEST_BEARD, beardOf(person) + 1);
                for (int deed = 0; deed < town.deeds; deed++) {
                    setLeft(person, deed, Math.max(0, leftOf(person, deed) - 1));
                }
            }
            row[WENT] = 0;
            row[SMOOTHED] = 0;
            row[DAY]++;
        }

        private int wishersAmong(int people) {
            int wishers = 0;
            for (int person = 0; person < town.people; person++) {
                if ((people >> person & 1) == 1 && town.wish[person] == row[DAY] % DAYS_OF_WEEK) {
                    wishers++;
                }
            }
            return wishers;
        }

        private void write(int smooth) {
            int place = row[DAY] % PLACES * ENTRY;
            entries[place] = smooth;
            entries[place + 1] = row[SMOOTHED];
            entries[place + 2] = row[HARM];
        }

        /** Each DAY that went by has written one, and an ACT that is UNDONE takes its own along. */
        int logLength() {
            return Math.min(MOST_LOG, row[DAY]);
        }

        int logged(int i, int what) {
            int day = row[DAY] - 1 - i;
            return day < 0 ? NONE : entries[day % PLACES * ENTRY + what];
        }
    }

    /** What stood ahead of each of the latest ACTS. */
    private static final class Past {
        final int[][] rows = new int[MOST_ACTS][Life.ROW];
        int acts;
        int next;

        void keep(Life life) {
            System.arraycopy(life.row, 0, rows[next], 0, Life.ROW);
            next = (next + 1) % MOST_ACTS;
            acts = Math.min(MOST_ACTS, acts + 1);
        }

        int takeBack(Life life) {
            if (acts == 0) {
                return NONE;
            }
            next = (next + MOST_ACTS - 1) % MOST_ACTS;
            System.arraycopy(rows[next], 0, life.row, 0, Life.ROW);
            acts--;
            return acts;
        }

        void forget() {
            acts = 0;
        }
    }

    /** What was SEEN, and which DEEDS fit it. */
    private static final class Sights {
        static final int COUNTS = MOST_DEEDS + 1;
        static final int CASES = (9 * MOST_DEEDS + 1) * COUNTS;

        final Town town;
        final Court court;
        final int[] people = new int[MOST_SEEN];
        final int[] beards = new int[MOST_SEEN];
        final boolean[] guilty = new boolean[MOST_SEEN];
        int count;

        // SETS alike in GUILT and number are READ alike, so they are one case, told by GUILT times COUNTS and number.
        final int[] setsOfCase = new int[CASES];
        final int[] cases = new int[1 << MOST_DEEDS];
        int caseCount;

        Sights(Town town, Court court) {
            this.town = town;
            this.court = court;
        }

        void forget() {
            count = 0;
        }

        int add(int person, int beard, boolean wasGuilty) {
            if (count == MOST_SEEN) {
                return NONE;
            }
            people[count] = person;
            beards[count] = beard;
            guilty[count] = wasGuilty;
            count++;
            return count;
        }

        private boolean fits(int person, int guilt, int deeds) {
            for (int i = 0; i < count; i++) {
                if (people[i] == person && (court.read(person, guilt, deeds, beards[i], 0, 0) > 0) != guilty[i]) {
                    return false;
                }
            }
            return true;
        }

        /** The i-th; how many, if i is NONE. */
        int fittingSet(int person, int i) {
            int found = 0;
            int end = 1 << town.deeds;
            for (int bits = 0; bits < end; bits++) {
                if (fits(person, town.weightOf(bits), Integer.bitCount(bits))) {
                    if (found == i) {
                        return bits;
                    }
                    found++;
                }
            }
            return i == NONE ? found : NONE;
        }

        int bestBeard(int person) {
            int fitting = gatherCases(person);
            if (fitting == 0) {
                return NONE;
            }
            int best = 0;
            int least = fitting + 1;
            int last = court.heedsBeard() ? LONGEST_BEARD : 0;
            for (int beard = 0; beard <= last; beard++) {
                int apart = Math.abs(2 * guiltyAt(person, beard) - fitting);
                if (apart < least) {
                    best = beard;
                    least = apart;
                }
                if (apart < 2) {
                    return best;
                }
            }
            return best;
        }

        /** How many SETS fit; what cases they are is kept. */
        private int gatherCases(int person) {
            int end = 1 << town.deeds;
            int beyond = (town.weightOf(end - 1) + 1) * COUNTS;
            Arrays.fill(setsOfCase, 0);
            for (int bits = 0; bits < end; bits++) {
                setsOfCase[town.weightOf(bits) * COUNTS + Integer.bitCount(bits)]++;
            }
            int fitting = 0;
            caseCount = 0;
            for (int i = 0; i < beyond; i++) {
                if (setsOfCase[i] > 0 && fits(person, i / COUNTS, i % COUNTS)) {
                    cases[caseCount] = i;
                    caseCount++;
                    fitting += setsOfCase[i];
                }
            }
            return fitting;
        }

        private int guiltyAt(int person, int beard) {
            int sets = 0;
            for (int i = 0; i < caseCount; i++) {
                int told = cases[i];
                if (court.read(person, told / COUNTS, told % COUNTS, beard, 0, 0) > 0) {
                    sets += setsOfCase[told];
                }
            }
            return sets;
        }
    }

    /** The draws of YEARS. */
    private static final class Draws {
        static final long FACTOR = 6364136223846793005L;
        static final long MORE = 1442695040888963407L;

        long x;

        void begin(long seed) {
            x = seed;
        }

        int draw(int sides) {
            x = x * FACTOR + MORE;
            return sides < 1 ? 0 : (int) ((x >>> 33) % sides);
        }
    }
}
