/**
 * A jury of noses: a hall of places with wind, and people of kinds who smell of deeds and have noses.
 * The document ../shared/DOC.md says what each call does; README.md says how to use the class.
 */
public final class NoseJury {
    private static final int BEYOND = -1000000001;
    private static final int FULL = -1000000002;
    private static final int KIND = -1000000003;
    private static final int NONE = -1000000004;
    private static final int STATE = -1000000005;
    private static final int MISSING = -1000000006;
    private static final int SIZE = -1000000007;
    private static final int FINDINGS = 7;

    private static final int PLACES = 48;
    private static final int COLUMNS = 8;
    private static final int WINDS = 5;
    private static final int DUE_LEAST = 1;
    private static final int DUE_MOST = 99;
    private static final int DUE_FIRST = 20;
    private static final int HOUR_MOST = 9999;
    private static final int HOURS_MOST = 60;
    private static final int PEOPLE_MOST = 8;
    private static final int DEEDS = 6;
    private static final int SCENT_MOST = 99;
    private static final int NOSE_MOST = 9;
    private static final int NOSE_FIRST = 5;

    private static final int COOK = 1;
    private static final int BARRISTER = 2;
    private static final int DOG = 3;
    private static final int PERFUMER = 4;
    private static final int HOUND = 5;
    private static final int KINDS = 6;

    private static final int TAPE_MOST = 120;
    private static final int FEED_MOST = 4;
    private static final int SHEETS = 4;
    private static final int NUMBERS_MOST = 40;

    private static final int TRY_WIND = 0;
    private static final int TRY_PLACE = 1;
    private static final int TRY_KIND = 2;

    private final Hall live;
    private final Hall kept;
    /** Where all that is only asked about is tried, so that no call makes objects. */
    private final Hall trial;
    private final Tape tape;
    private final Sheet[] sheets;
    private final int[] told;
    private boolean anyKept;

    public NoseJury() {
        live = new Hall();
        kept = new Hall();
        trial = new Hall();
        tape = new Tape();
        sheets = new Sheet[SHEETS];
        for (int s = 0; s < SHEETS; s++) {
            sheets[s] = new Sheet();
        }
        told = new int[FINDINGS];
        anyKept = false;
    }

    // ---- the hall, people

    public int law(int what, int v) {
        if (what == 0 && within(v, 0, WINDS - 1)) {
            int was = live.wind;
            live.wind = v;
            return was;
        }
        if (what == 1 && within(v, DUE_LEAST, DUE_MOST)) {
            int was = live.due;
            live.due = v;
            return was;
        }
        return tell(BEYOND);
    }

    public int person(int kind, int place) {
        if (!isKind(kind) || !isPlace(place)) {
            return tell(BEYOND);
        }
        if (live.people >= PEOPLE_MOST) {
            return tell(FULL);
        }
        return live.join(kind, place);
    }

    public int of(int person, int what) {
        if (!live.has(person)) {
            return tell(BEYOND);
        }
        switch (what) {
            case 0:
                return live.kinds[person];
            case 1:
                return live.places[person];
            case 2:
                return live.noses[person];
            case 3:
                return live.colds[person];
            case 4:
                return live.scentsOf(person);
            case 5:
                return live.givenOffBy(person);
            default:
                return tell(BEYOND);
        }
    }

    public int set(int person, int what, int v) {
        if (!live.has(person)) {
            return tell(BEYOND);
        }
        if (what == 1 && isPlace(v)) {
            return exchange(live.places, person, v);
        }
        if (what == 2 && within(v, 0, NOSE_MOST)) {
            return exchange(live.noses, person, v);
        }
        if (what == 3 && within(v, 0, 1)) {
            return exchange(live.colds, person, v);
        }
        return tell(BEYOND);
    }

    public int did(int person, int deed, int v) {
        if (!live.has(person) || !isDeed(deed) || !within(v, 0, SCENT_MOST)) {
            return tell(BEYOND);
        }
        return exchange(live.scents[deed], person, v);
    }

    public int scent(int person, int deed, int what) {
        if (!live.has(person) || !isDeed(deed) || !within(what, 0, 1)) {
            return tell(BEYOND);
        }
        return what == 0 ? live.scents[deed][person] : live.givesOff(person, deed);
    }

    public int turn(int person, int kind) {
        if (!live.has(person) || !isKind(kind)) {
            return tell(BEYOND);
        }
        return exchange(live.kinds, person, kind);
    }

    public int as(int person, int kind) {
        if (!live.has(person) || !isKind(kind)) {
            return tell(BEYOND);
        }
        if (!isUnder(live.kinds[person], kind)) {
            return tell(KIND);
        }
        return live.noses[person];
    }

    public int wash(int person) {
        if (!live.has(person)) {
            return tell(BEYOND);
        }
        return live.washes(person);
    }

    public int meet(int person, int other) {
        if (!live.hasTwo(person, other)) {
            return tell(BEYOND);
        }
        int more = 0;
        for (int deed = 0; deed < DEEDS; deed++) {
            int[] row = live.scents[deed];
            int half = Math.max(row[person], row[other]) / 2;
            // Of the two only the one with less can have less than that half.
            int lesser = row[person] < row[other] ? person : other;
            if (row[lesser] < half) {
                row[lesser] = half;
                more++;
            }
        }
        return more;
    }

    // ---- noses

    public int smells(int person, int other, int deed) {
        if (!live.hasTwo(person, other) || !isDeed(deed)) {
            return tell(BEYOND);
        }
        return live.smelt(person, other, deed);
    }

    public int deed(int person, int other) {
        if (!live.hasTwo(person, other)) {
            return tell(BEYOND);
        }
        int best = -1;
        int most = 0;
        for (int d = 0; d < DEEDS; d++) {
            int smelt = live.smelt(person, other, d);
            if (smelt > most) {
                most = smelt;
                best = d;
            }
        }
        return best < 0 ? tell(NONE) : best;
    }

    public int guilty(int person) {
        if (!live.has(person)) {
            return tell(BEYOND);
        }
        return live.finders(person);
    }

    public int convicts(int jury, int person) {
        if (!within(jury, 1, live.everybody()) || !live.has(person)) {
            return tell(BEYOND);
        }
        if ((jury & 1 << person) != 0) {
            return tell(STATE);
        }
        return isMajority(jury, live.finders(person)) ? 1 : 0;
    }

    public int hours(int n) {
        if (!within(n, 1, HOURS_MOST)) {
            return tell(BEYOND);
        }
        if (live.hour + n > HOUR_MOST) {
            return tell(STATE);
        }
        for (int i = 0; i < n; i++) {
            live.hourGoes();
        }
        return live.scentsOfAll();
    }

    public int now(int what) {
        switch (what) {
            case 0:
                return live.hour;
            case 1:
                return live.wind;
            case 2:
                return live.due;
            case 3:
                return live.scentsOfAll();
            case 4:
                return live.foundGuilty();
            default:
                return tell(BEYOND);
        }
    }

    public int on(int person, int deed, int n) {
        if (!live.has(person) || !isDeed(deed) || !within(n, 0, HOURS_MOST)) {
            return tell(BEYOND);
        }
        trial.become(live);
        for (int i = 0; i < n; i++) {
            trial.hourGoesFor(deed);
        }
        return trial.scents[deed][person];
    }

    public int clean(int person) {
        if (!live.has(person)) {
            return tell(BEYOND);
        }
        trial.become(live);
        for (int n = 0; n <= HOURS_MOST; n++) {
            if (trial.finders(person) == 0) {
                return n;
            }
            trial.hourGoes();
        }
        return tell(NONE);
    }

    // ---- what is best

    public int wind(int person) {
        return live.has(person) ? fewestFind(person, TRY_WIND, WINDS) : tell(BEYOND);
    }

    public int seat(int person) {
        return live.has(person) ? fewestFind(person, TRY_PLACE, PLACES) : tell(BEYOND);
    }

    public int bath(int person) {
        if (!live.has(person)) {
            return tell(BEYOND);
        }
        trial.become(live);
        trial.hourGoes();
        int fewest = Integer.bitCount(trial.finders(person));
        int best = -1;
        for (int washer = 0; washer < live.people; washer++) {
            trial.become(live);
            trial.washes(washer);
            trial.hourGoes();
            int find = Integer.bitCount(trial.finders(person));
            if (find < fewest) {
                fewest = find;
                best = washer;
            }
        }
        return best < 0 ? tell(NONE) : best;
    }

    public int kind(int person) {
        return live.has(person) ? fewestFind(person, TRY_KIND, KINDS) : tell(BEYOND);
    }

    public int due(int person) {
        if (!live.has(person)) {
            return tell(BEYOND);
        }
        trial.become(live);
        for (int d = DUE_LEAST; d <= DUE_MOST; d++) {
            trial.due = d;
            if (trial.finders(person) == 0) {
                return d;
            }
        }
        return tell(NONE);
    }

    public int jury(int person, int n) {
        if (!live.has(person) || !within(n, 1, PEOPLE_MOST - 1)) {
            return tell(BEYOND);
        }
        int finders = live.finders(person);
        for (int set = 1; set <= live.everybody(); set++) {
            if (isJuryAgainst(set, person, n, finders)) {
                return set;
            }
        }
        return tell(NONE);
    }

    public int juries(int person, int n) {
        if (!live.has(person) || !within(n, 1, PEOPLE_MOST - 1)) {
            return tell(BEYOND);
        }
        int finders = live.finders(person);
        int many = 0;
        for (int set = 1; set <= live.everybody(); set++) {
            if (isJuryAgainst(set, person, n, finders)) {
                many++;
            }
        }
        return many;
    }

    public int from(int person, int deed) {
        if (!live.has(person) || !isDeed(deed)) {
            return tell(BEYOND);
        }
        int giver = live.strongestBeside(person, deed);
        if (giver < 0) {
            return tell(NONE);
        }
        int[] row = live.scents[deed];
        return row[giver] / 4 > faded(deed, row[person]) ? giver : tell(NONE);
    }

    public int nose(int person, int other) {
        if (!live.hasTwo(person, other)) {
            return tell(BEYOND);
        }
        trial.become(live);
        trial.colds[person] = 0;
        for (int n = 0; n <= NOSE_MOST; n++) {
            trial.noses[person] = n;
            if (trial.finds(person, other)) {
                return n;
            }
        }
        return tell(NONE);
    }

    // ---- the text

    public int feed(int bytes, int n) {
        if (!within(n, 1, FEED_MOST)) {
            return tell(BEYOND);
        }
        if (tape.length + n > TAPE_MOST) {
            return tell(FULL);
        }
        for (int i = n - 1; i >= 0; i--) {
            tape.append(bytes >>> 8 * i & 255);
        }
        return tape.length;
    }

    public int wipe() {
        int had = tape.length;
        tape.length = 0;
        return had;
    }

    public int hall() {
        // The text comes to the trial first, so that a fault late in it changes nothing.
        trial.become(live);
        int items = tape.tellTo(trial);
        if (items >= 0) {
            live.become(trial);
        }
        tape.length = 0;
        return items;
    }

    // ---- sheets

    public int sheet(int s, int bits, int n) {
        if (!isSheet(s) || bits != 0 && bits != 8 && bits != 16 && bits != 64) {
            return tell(BEYOND);
        }
        if (n < 0) {
            return tell(SIZE);
        }
        if (n > NUMBERS_MOST) {
            return tell(BEYOND);
        }
        sheets[s].renew(bits, bits == 0 ? 0 : n);
        return sheets[s].size;
    }

    public long write(int s, int i, long v) {
        int finding = findingOfSheet(s);
        if (finding != 0) {
            return tell(finding);
        }
        Sheet sheet = sheets[s];
        if (!within(i, 0, sheet.size - 1)) {
            return tell(BEYOND);
        }
        long was = sheet.numbers[i];
        sheet.put(i, v);
        return was;
    }

    public int copy(int s, int from, int t, int to, int n) {
        if (!isSheet(s) || !isSheet(t)) {
            return tell(BEYOND);
        }
        Sheet source = sheets[s];
        Sheet target = sheets[t];
        if (source.bits == 0 || target.bits == 0) {
            return tell(MISSING);
        }
        if (source.bits != target.bits) {
            return tell(KIND);
        }
        if (!source.hasRun(from, n) || !target.hasRun(to, n)) {
            return tell(BEYOND);
        }
        System.arraycopy(source.numbers, from, target.numbers, to, n);
        return n;
    }

    public int lays(int s) {
        int finding = findingOfSheet(s);
        if (finding != 0) {
            return tell(finding);
        }
        Sheet sheet = sheets[s];
        int came = 0;
        for (int i = 0; i < sheet.size && i < live.people; i++) {
            long place = sheet.numbers[i];
            if (place >= 0 && place < PLACES) {
                live.places[i] = (int) place;
                came++;
            }
        }
        return came;
    }

    public int book(int s, int person, int other, int deed) {
        int finding = findingOfBook(s, person, other, deed);
        if (finding != 0) {
            return tell(finding);
        }
        Sheet sheet = sheets[s];
        trial.become(live);
        for (int i = 0; i < sheet.size; i++) {
            sheet.put(i, trial.smelt(person, other, deed));
            trial.hourGoesFor(deed);
        }
        return sheet.size;
    }

    public int read(int s, int person, int other, int deed) {
        int finding = findingOfBook(s, person, other, deed);
        if (finding != 0) {
            return tell(finding);
        }
        int many = 0;
        for (int v = 0; v <= SCENT_MOST; v++) {
            trial.become(live);
            trial.scents[deed][other] = v;
            if (isToldBy(sheets[s], person, other, deed)) {
                many++;
            }
        }
        return many;
    }

    // ---- images

    public int image() {
        kept.become(live);
        anyKept = true;
        return 1;
    }

    public int undo() {
        if (!anyKept) {
            return tell(NONE);
        }
        live.become(kept);
        return live.people;
    }

    public int tear() {
        int was = anyKept ? 1 : 0;
        anyKept = false;
        return was;
    }

    public int count(int what) {
        switch (what) {
            case 0:
                return live.people;
            case 1:
                return tape.length;
            case 2:
                return live.sumOver(live.colds);
            case 3:
                return live.sumOver(live.noses);
            default:
                return tell(BEYOND);
        }
    }

    public int status(int which) {
        if (within(which, 0, FINDINGS - 1)) {
            return told[which];
        }
        if (which != -1) {
            return tell(BEYOND);
        }
        int all = 0;
        for (int i = 0; i < FINDINGS; i++) {
            all += told[i];
        }
        return all;
    }

    // ---- what the calls share

    /** Every finding goes out through here, so that status() misses none. */
    private int tell(int finding) {
        int index = BEYOND - finding;
        if (within(index, 0, FINDINGS - 1)) {
            told[index]++;
        }
        return finding;
    }

    private int fewestFind(int person, int tried, int values) {
        trial.become(live);
        int fewest = PEOPLE_MOST + 1;
        int best = 0;
        for (int v = 0; v < values; v++) {
            trial.put(person, tried, v);
            int find = Integer.bitCount(trial.finders(person));
            if (find < fewest) {
                fewest = find;
                best = v;
            }
        }
        return best;
    }

    private boolean isToldBy(Sheet sheet, int person, int other, int deed) {
        for (int i = 0; i < sheet.size; i++) {
            if (sheet.numbers[i] != trial.smelt(person, other, deed)) {
                return false;
            }
            trial.hourGoesFor(deed);
        }
        return true;
    }

    /** 0 where there is no finding. */
    private int findingOfSheet(int s) {
        if (!isSheet(s)) {
            return BEYOND;
        }
        return sheets[s].bits == 0 ? MISSING : 0;
    }

    private int findingOfBook(int s, int person, int other, int deed) {
        int finding = findingOfSheet(s);
        if (finding != 0) {
            return finding;
        }
        return live.hasTwo(person, other) && isDeed(deed) ? 0 : BEYOND;
    }

    private static int exchange(int[] row, int person, int v) {
        int was = row[person];
        row[person] = v;
        return was;
    }

    private static boolean within(int v, int least, int most) {
        return v >= least && v <= most;
    }

    private static boolean isKind(int kind) {
        return within(kind, 0, KINDS - 1);
    }

    private static boolean isPlace(int place) {
        return within(place, 0, PLACES - 1);
    }

    private static boolean isDeed(int deed) {
        return within(deed, 0, DEEDS - 1);
    }

    private static boolean isSheet(int s) {
        return within(s, 0, SHEETS - 1);
    }

    /** Whether a kind is another one, or stands under it. */
    private static boolean isUnder(int kind, int above) {
        switch (above) {
            case 0:
                return true;
            case BARRISTER:
                return kind == BARRISTER || kind == PERFUMER;
            case DOG:
                return kind == DOG || kind == HOUND;
            default:
                return kind == above;
        }
    }

    private static boolean isMajority(int jury, int finders) {
        return 2 * Integer.bitCount(jury & finders) > Integer.bitCount(jury);
    }

    private static boolean isJuryAgainst(int set, int person, int n, int finders) {
        return (set & 1 << person) == 0 && Integer.bitCount(set) == n && isMajority(set, finders);
    }

    /** A scent after one hour, before what clings. */
    private static int faded(int deed, int v) {
        return deed == DEEDS - 1 ? v - v / 2 : Math.max(v - v / 10 - 1, 0);
    }

    /** All that section 1 of the document tells, but for the tape. */
    private static final class Hall {
        int wind;
        int due;
        int hour;
        int people;
        final int[] kinds;
        final int[] places;
        final int[] noses;
        final int[] colds;
        /** By deed, then by person, since an hour goes for each deed by itself. */
        final int[][] scents;
        private final int[] later;

        Hall() {
            wind = 0;
            due = DUE_FIRST;
            hour = 0;
            people = 0;
            kinds = new int[PEOPLE_MOST];
            places = new int[PEOPLE_MOST];
            noses = new int[PEOPLE_MOST];
            colds = new int[PEOPLE_MOST];
            scents = new int[DEEDS][PEOPLE_MOST];
            later = new int[PEOPLE_MOST];
        }

        void become(Hall model) {
            wind = model.wind;
            due = model.due;
            hour = model.hour;
            people = model.people;
            System.arraycopy(model.kinds, 0, kinds, 0, PEOPLE_MOST);
            System.arraycopy(model.places, 0, places, 0, PEOPLE_MOST);
            System.arraycopy(model.noses, 0, noses, 0, PEOPLE_MOST);
            System.arraycopy(model.colds, 0, colds, 0, PEOPLE_MOST);
            for (int deed = 0; deed < DEEDS; deed++) {
                System.arraycopy(model.scents[deed], 0, scents[deed], 0, PEOPLE_MOST);
            }
        }

        boolean has(int person) {
            return person >= 0 && person < people;
        }

        boolean hasTwo(int person, int other) {
            return has(person) && has(other) && person != other;
        }

        int everybody() {
            return (1 << people) - 1;
        }

        /** The caller has seen that there is room. */
        int join(int kind, int place) {
            int person = people;
            kinds[person] = kind;
            places[person] = place;
            noses[person] = NOSE_FIRST;
            colds[person] = 0;
            for (int deed = 0; deed < DEEDS; deed++) {
                scents[deed][person] = 0;
            }
            people++;
            return person;
        }

        void put(int person, int tried, int v) {
            if (tried == TRY_WIND) {
                wind = v;
            } else if (tried == TRY_PLACE) {
                places[person] = v;
            } else {
                kinds[person] = v;
            }
        }

        int washes(int person) {
            int less = 0;
            for (int deed = 0; deed < DEEDS; deed++) {
                int was = scents[deed][person];
                scents[deed][person] = was / 3;
                less += was - was / 3;
            }
            return less;
        }

        int sumOver(int[] row) {
            int sum = 0;
            for (int person = 0; person < people; person++) {
                sum += row[person];
            }
            return sum;
        }

        int scentsOf(int person) {
            int sum = 0;
            for (int deed = 0; deed < DEEDS; deed++) {
                sum += scents[deed][person];
            }
            return sum;
        }

        int scentsOfAll() {
            int sum = 0;
            for (int deed = 0; deed < DEEDS; deed++) {
                sum += sumOver(scents[deed]);
            }
            return sum;
        }

        int givesOff(int person, int deed) {
            int v = scents[deed][person];
            switch (kinds[person]) {
                case COOK:
                    return deed == 0 ? 0 : v;
                case BARRISTER:
                    return Math.max(v - 10, 0);
                case PERFUMER:
                    return hour % 2 == 0 ? Math.max(v - 10, 0) / 2 : Math.max(v - 10, 0);
                case DOG:
                    return v + v / 2;
                case HOUND:
                    return Math.max(v + v / 2 - 5, 0);
                default:
                    return v;
            }
        }

        int givenOffBy(int person) {
            int sum = 0;
            for (int deed = 0; deed < DEEDS; deed++) {
                sum += givesOff(person, deed);
            }
            return sum;
        }

        int senses(int person, int given, int apart) {
            if (colds[person] != 0) {
                return 0;
            }
            // Nothing is less than 0 apart, so the divisor is 5 at least.
            int plain = given * noses[person] / (apart + 5);
            switch (kinds[person]) {
                case COOK:
                    return apart == 0 ? 0 : plain;
                case DOG:
                    return 2 * plain;
                case HOUND:
                    return plain > 0 ? 2 * plain + 3 : 0;
                default:
                    return plain;
            }
        }

        int smelt(int person, int other, int deed) {
            int sensed = senses(person, givesOff(other, deed), apart(places[person], places[other]));
            if (isDownwind(places[person], places[other])) {
                return 2 * sensed;
            }
            return isDownwind(places[other], places[person]) ? sensed / 2 : sensed;
        }

        boolean finds(int person, int other) {
            if (isUnder(kinds[person], BARRISTER) && apart(places[person], places[other]) <= 1) {
                return false;
            }
            for (int deed = 0; deed < DEEDS; deed++) {
                if (smelt(person, other, deed) >= due) {
                    return true;
                }
            }
            return false;
        }

        /** Those who find one guilty, as a set. */
        int finders(int person) {
            int set = 0;
            for (int one = 0; one < people; one++) {
                if (one != person && finds(one, person)) {
                    set |= 1 << one;
                }
            }
            return set;
        }

        /** Those whom anybody finds guilty, as a set. */
        int foundGuilty() {
            int set = 0;
            for (int person = 0; person < people; person++) {
                if (finders(person) != 0) {
                    set |= 1 << person;
                }
            }
            return set;
        }

        void hourGoes() {
            for (int deed = 0; deed < DEEDS; deed++) {
                fade(deed);
            }
            hour++;
        }

        /** An hour for those who ask of one deed alone: the other deeds are left as they were. */
        void hourGoesFor(int deed) {
            fade(deed);
            hour++;
        }

        private void fade(int deed) {
            int[] row = scents[deed];
            for (int person = 0; person < people; person++) {
                int giver = strongestBeside(person, deed);
                int clung = giver < 0 ? 0 : row[giver] / 4;
                later[person] = Math.max(faded(deed, row[person]), clung);
            }
            System.arraycopy(later, 0, row, 0, people);
        }

        /** The least of the others at one's place with the greatest scent of a deed, or -1. */
        int strongestBeside(int person, int deed) {
            int[] row = scents[deed];
            int best = -1;
            for (int other = 0; other < people; other++) {
                if (other != person && places[other] == places[person] && (best < 0 || row[other] > row[best])) {
                    best = other;
                }
            }
            return best;
        }

        private boolean isDownwind(int place, int of) {
            switch (wind) {
                case 1:
                    return place / COLUMNS < of / COLUMNS;
                case 2:
                    return place % COLUMNS > of % COLUMNS;
                case 3:
                    return place / COLUMNS > of / COLUMNS;
                case 4:
                    return place % COLUMNS < of % COLUMNS;
                default:
                    return false;
            }
        }

        private static int apart(int a, int b) {
            return Math.abs(a / COLUMNS - b / COLUMNS) + Math.abs(a % COLUMNS - b % COLUMNS);
        }
    }

    /** A row of numbers; bits 0 where it is missing. */
    private static final class Sheet {
        int bits;
        int size;
        final long[] numbers;

        Sheet() {
            bits = 0;
            size = 0;
            numbers = new long[NUMBERS_MOST];
        }

        void renew(int newBits, int newSize) {
            bits = newBits;
            size = newSize;
            for (int i = 0; i < NUMBERS_MOST; i++) {
                numbers[i] = 0;
            }
        }

        /** Java's own numbers of so many bits have a sign, and so have these. */
        void put(int i, long v) {
            numbers[i] = bits == 8 ? (byte) v : bits == 16 ? (short) v : v;
        }

        boolean hasRun(int start, int n) {
            return start >= 0 && n >= 0 && start <= size && n <= size - start;
        }
    }

    /** The bytes of a text, and the token of it that is looked at. */
    private static final class Tape {
        private static final int END = 0;
        private static final int WORD = 1;
        private static final int NUMBER = 2;
        private static final int SIGN = 3;
        private static final int STRANGE = 4;
        /** No number of a text may be so great, and longer ones need not be told apart. */
        private static final int TOO_GREAT = 1000;

        int length;
        private final int[] bytes;
        private int next;
        private int token;
        private int start;
        private int value;

        Tape() {
            length = 0;
            bytes = new int[TAPE_MOST];
            next = 0;
            token = END;
            start = 0;
            value = 0;
        }

        /** The caller has seen that there is room. */
        void append(int b) {
            bytes[length] = b;
            length++;
        }

        /** How many items came to a hall, or -1 less the place of the fault. */
        int tellTo(Hall hall) {
            next = 0;
            for (int items = 1; items <= TAPE_MOST; items++) {
                step();
                if (!takesItem(hall)) {
                    return -1 - start;
                }
                if (token == END) {
                    return items;
                }
                if (token != SIGN) {
                    return -1 - start;
                }
            }
            return -1 - start;
        }

        /**
         * Where this, or what takes a part of it, answers false, the token is the one that can't stand there; else the
         * one behind what was taken.
         */
        private boolean takesItem(Hall hall) {
            if (isWord("wind")) {
                return takesWind(hall);
            }
            if (isWord("due")) {
                return takesDue(hall);
            }
            int person = takesPerson(hall);
            if (person < 0 || !takesNose(hall, person)) {
                return false;
            }
            takeCold(hall, person);
            return takesDeed(hall, person);
        }

        private boolean takesWind(Hall hall) {
            if (!takesNumber(0, WINDS - 1)) {
                return false;
            }
            hall.wind = value;
            step();
            return true;
        }

        private boolean takesDue(Hall hall) {
            if (!takesNumber(DUE_LEAST, DUE_MOST)) {
                return false;
            }
            hall.due = value;
            step();
            return true;
        }

        /** The number of the new one, or -1 where the token can't stand there. */
        private int takesPerson(Hall hall) {
            int kind = kindNamed();
            if (kind < 0 || hall.people >= PEOPLE_MOST) {
                return -1;
            }
            step();
            if (!isWord("at") || !takesNumber(0, PLACES - 1)) {
                return -1;
            }
            int person = hall.join(kind, value);
            step();
            return person;
        }

        private boolean takesNose(Hall hall, int person) {
            if (!isWord("nose")) {
                return true;
            }
            if (!takesNumber(0, NOSE_MOST)) {
                return false;
            }
            hall.noses[person] = value;
            step();
            return true;
        }

        /** No token is wrong here: what is no cold is looked at by what comes behind it. */
        private void takeCold(Hall hall, int person) {
            if (isWord("cold")) {
                hall.colds[person] = 1;
                step();
            }
        }

        private boolean takesDeed(Hall hall, int person) {
            if (!isWord("did")) {
                return true;
            }
            if (!takesNumber(0, DEEDS - 1)) {
                return false;
            }
            int deed = value;
            if (!takesNumber(0, SCENT_MOST)) {
                return false;
            }
            hall.scents[deed][person] = value;
            step();
            return true;
        }

        private boolean takesNumber(int least, int most) {
            step();
            return token == NUMBER && value >= least && value <= most;
        }

        private int kindNamed() {
            for (int kind = 0; kind < KINDS; kind++) {
                if (isWord(nameOf(kind))) {
                    return kind;
                }
            }
            return -1;
        }

        private static String nameOf(int kind) {
            switch (kind) {
                case COOK:
                    return "cook";
                case BARRISTER:
                    return "barrister";
                case DOG:
                    return "dog";
                case PERFUMER:
                    return "perfumer";
                case HOUND:
                    return "hound";
                default:
                    return "person";
            }
        }

        private boolean isWord(String word) {
            if (token != WORD || next - start != word.length()) {
                return false;
            }
            for (int i = 0; i < word.length(); i++) {
                if (bytes[start + i] != word.charAt(i)) {
                    return false;
                }
            }
            return true;
        }

        /** Goes on to the token behind; an end stands at the place behind the last byte. */
        private void step() {
            while (next < length && bytes[next] == ' ') {
                next++;
            }
            start = next;
            if (next >= length) {
                token = END;
            } else if (isLetter(bytes[next])) {
                token = WORD;
                passWord();
            } else if (isDigit(bytes[next])) {
                token = NUMBER;
                passNumber();
            } else {
                token = bytes[next] == ';' ? SIGN : STRANGE;
                next++;
            }
        }

        private void passWord() {
            while (next < length && isLetter(bytes[next])) {
                next++;
            }
        }

        private void passNumber() {
            value = 0;
            while (next < length && isDigit(bytes[next])) {
                value = Math.min(10 * value + bytes[next] - '0', TOO_GREAT);
                next++;
            }
        }

        private static boolean isLetter(int b) {
            return b >= 'a' && b <= 'z';
        }

        private static boolean isDigit(int b) {
            return b >= '0' && b <= '9';
        }
    }
}
