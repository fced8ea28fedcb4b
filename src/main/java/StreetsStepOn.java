import java.util.Arrays;
import java.util.NoSuchElementException;

/**
 * A town in which every night each STREET takes the NAME of another one, by the ORDER of that day
 * of the week. The document (DOC.md) numbers what each call promises.
 */
public final class StreetsStepOn {
    public static final int NONE = -1;

    private static final int NEVER = -2;
    private static final int TOO_MANY = -3;
    private static final int MISSING = -3;
    private static final long LAST_DAY = 1000000000000L;
    private static final int MOST_STREETS = 12;
    private static final int MOST_PLACES = 10;
    private static final int MOST_ORDERS = 7;
    private static final int MOST_LETTERS = 12;
    private static final int MOST_WISHES = 6;
    /** Up to so many STREETS every way that an ORDER could be is tried. */
    private static final int FEW_STREETS = 6;
    private static final int LONGEST = 20;
    private static final int NO_WAY = 999;
    private static final int LATEST = 99;
    private static final int MOST_POSTMAN_DAYS = 30;
    private static final int MOST_SENT_DAYS = 1000;
    private static final int ROUND_DAYS = 100;
    /** A walk is a round on one DAY that does not end. */
    private static final int ENDLESS_DAY = 1000000;

    private final Text text = new Text();
    private final Row told = new Row();
    private final Book book = new Book();
    private final Book[] keptBooks = new Book[2];
    private final Roads roads = new Roads();
    private final Almanac almanac = new Almanac();
    private final TownReader townReader = new TownReader();
    private final Rule lateRule = new Rule();
    private final Council council = new Council();
    private final Inquiry inquiry = new Inquiry();
    private final Tour tour = new Tour();
    /** Of each STREET on how many DAYS it bears the NAME that is looked for. */
    private final int[] tally = new int[MOST_STREETS];
    /** Of each DAY that a postman may know how many LETTERS its NAMES bring HOME. */
    private final int[] brought = new int[LATEST + MOST_POSTMAN_DAYS];

    public StreetsStepOn() {
        keptBooks[0] = new Book();
        keptBooks[1] = new Book();
    }

    // ---- the town

    public int sign(int v) {
        return text.add(v);
    }

    public boolean end(int n) {
        return text.cut(n);
    }

    public int town() {
        int lines = townReader.read(text, book, roads);
        text.cut(0);
        if (lines > 0) {
            reckonAnew();
        }
        return lines;
    }

    public int street(int street, int what) throws NoSuchElementException {
        if (!isStreet(street)) {
            throw new NoSuchElementException();
        }
        switch (what) {
            case 0:
                return roads.house(street);
            case 1:
                return roads.farEnd(street);
            case 2:
                return book.lengths[street];
            case 3:
                return almanac.nameOn(street, book.today);
            default:
                throw new NoSuchElementException();
        }
    }

    public int next(int order, int street) {
        if (!isOrder(order) || !isStreet(street)) {
            return NONE;
        }
        return book.nexts[order][street];
    }

    public int sheet(int kind, int n, int f, int step) {
        if (kind < 0 || kind > 3 || n > MOST_STREETS) {
            return NONE;
        }
        if (kind < 3 && n < 0) {
            return -2;
        }
        int entries = kind < 3 ? n : 0;
        int sum = 0;
        for (int street = 0; street < book.streets; street++) {
            int length = street < entries ? sheetLength(kind, f + street * step) : 1;
            book.lengths[street] = length;
            sum += length;
        }
        roads.measure(book);
        return kind == 3 ? MISSING : sum;
    }

    public int far(int a, int b) {
        if (!isPlace(a) || !isPlace(b)) {
            return NONE;
        }
        return roads.between(a, b);
    }

    public int pass(long n) {
        if (n < 0 || n > LAST_DAY - book.today) {
            return NONE;
        }
        book.today += n;
        return orderBehind(book.today);
    }

    // ---- names

    public int name(int street, long day) {
        if (!isStreet(street) || !isDay(day)) {
            return NONE;
        }
        return almanac.nameOn(street, day);
    }

    public int where(int name, long day) {
        if (!isStreet(name) || !isDay(day)) {
            return NONE;
        }
        return almanac.bearerOn(name, day);
    }

    public int same(long day, long other) {
        if (!isDay(day) || !isDay(other)) {
            return NONE;
        }
        int they = 0;
        for (int street = 0; street < book.streets; street++) {
            if (almanac.nameOn(street, day) == almanac.nameOn(street, other)) {
                they |= 1 << street;
            }
        }
        told.tell(they);
        return Integer.bitCount(they);
    }

    public int period() {
        told.tell(almanac.turn);
        return almanac.firstOwn;
    }

    public long meets(int street, int name, long day) {
        if (!isStreet(street) || !isStreet(name) || !isDay(day)) {
            return NONE;
        }
        for (int ahead = 1; ahead <= almanac.turn; ahead++) {
            if (almanac.nameOn(street, day + ahead) == name) {
                return day + ahead;
            }
        }
        return NEVER;
    }

    public long trade(int a, int b, long day) {
        if (!isStreet(a) || !isStreet(b) || a == b || !isDay(day)) {
            return NONE;
        }
        for (int ahead = 1; ahead <= almanac.turn; ahead++) {
            if (almanac.nameOn(a, day + ahead) == b && almanac.nameOn(b, day + ahead) == a) {
                return day + ahead;
            }
        }
        return NEVER;
    }

    public int bears(int street) {
        if (!isStreet(street)) {
            return NONE;
        }
        return almanac.namesEver(street);
    }

    public long often(int street, int name, long n) {
        if (!isStreet(street) || !isStreet(name) || n < 1 || n > LAST_DAY || almanac.turn < 1) {
            return NONE;
        }
        long turns = n / almanac.turn;
        long rest = n % almanac.turn;
        long count = 0;
        for (int day = 0; day < almanac.turn; day++) {
            if (almanac.nameOn(street, day) == name) {
                count += day < rest ? turns + 1 : turns;
            }
        }
        return count;
    }

    public int quiet() {
        int best = NEVER;
        int most = -1;
        for (int day = 1; day < almanac.turn; day++) {
            int own = ownNames(day);
            if (own > most) {
                most = own;
                best = day;
            }
        }
        if (best > 0) {
            told.tell(most);
        }
        return best;
    }

    // ---- letters

    public int letter(int name, long day) {
        if (!isStreet(name) || !isDay(day) || book.letters >= MOST_LETTERS) {
            return NONE;
        }
        int letter = book.letters;
        book.letterNames[letter] = name;
        book.letterDays[letter] = day;
        book.letters++;
        return letter;
    }

    public int home(int letter) {
        if (!isLetter(letter)) {
            return NONE;
        }
        int bearer = almanac.bearerOn(book.letterNames[letter], book.today);
        told.tell(bearer, book.today - book.letterDays[letter]);
        return homeOf(letter);
    }

    public int means(int name, long from, long to) {
        if (!isStreet(name) || !isSpan(from, to, 1000)) {
            return NONE;
        }
        return tellBearers(name, from, (int) (to - from) + 1, 1);
    }

    public int smudge(int name, int order) {
        if (!isStreet(name) || !isOrder(order)) {
            return NONE;
        }
        return tellBearers(name, order, almanac.turn / book.orders, book.orders);
    }

    public int misread(int letter, int shift) {
        if (!isLetter(letter) || shift < 0 || shift >= MOST_ORDERS) {
            return NONE;
        }
        return misreadHome(letter, shift);
    }

    public int shifts(int letter) {
        if (!isLetter(letter)) {
            return NONE;
        }
        int home = homeOf(letter);
        int they = 0;
        for (int shift = 0; shift < book.orders; shift++) {
            if (misreadHome(letter, shift) == home) {
                they |= 1 << shift;
            }
        }
        told.tell(they);
        return Integer.bitCount(they);
    }

    public int asks(int name, long from, long to) {
        if (!isStreet(name) || !isSpan(from, to, Inquiry.MOST_DAYS)) {
            return NONE;
        }
        if (book.streets > FEW_STREETS) {
            return TOO_MANY;
        }
        inquiry.open(almanac, book.streets, name, from, (int) (to - from) + 1);
        int askings = inquiry.fewest();
        told.tell(inquiry.firstAsked, inquiry.homes());
        return askings;
    }

    public int answer(int letter, int street) {
        if (!isLetter(letter) || !isStreet(street)) {
            return NONE;
        }
        return almanac.nameOn(street, book.letterDays[letter]);
    }

    public int cycles(int order) {
        if (!isOrder(order)) {
            return NONE;
        }
        int[] nexts = book.nexts[order];
        Arrays.fill(tally, 0);
        int moved = 0;
        for (int street = 0; street < book.streets; street++) {
            if (nexts[street] != street) {
                moved++;
            }
            int length = cycleIfFirst(nexts, street);
            if (length > 0) {
                tally[length - 1]++;
            }
        }
        told.clear();
        for (int i = 0; i < book.streets; i++) {
            told.add(tally[i]);
        }
        return moved;
    }

    public int roots(int order, int n) {
        if (!isOrder(order) || n < 1 || n > 12) {
            return NONE;
        }
        if (book.streets > FEW_STREETS) {
            return TOO_MANY;
        }
        int count = council.ordersDone(book, order, n);
        tellFound();
        return count;
    }

    public int mends(long day) {
        if (!isDay(day)) {
            return NONE;
        }
        for (int street = 0; street < book.streets; street++) {
            tally[street] = almanac.nameOn(street, day);
        }
        int exchanges = book.streets;
        int first = NONE;
        for (int street = book.streets - 1; street >= 0; street--) {
            if (cycleIfFirst(tally, street) > 0) {
                exchanges--;
            }
            if (tally[street] != street) {
                first = street;
            }
        }
        told.clear();
        if (first >= 0) {
            told.tell(first, almanac.bearerOn(first, day));
        }
        return exchanges;
    }

    // ---- postmen

    public int carries(int letter, int late) {
        if (!isLetter(letter) || !isLate(late)) {
            return NONE;
        }
        int home = homeOf(letter);
        int street = carriedTo(letter, late, book.today);
        told.tell(street == home ? 1 : 0, betweenHouses(street, home));
        return street;
    }

    public int best(int letter) {
        if (!isLetter(letter)) {
            return NONE;
        }
        int home = homeOf(letter);
        for (int late = 0; late <= LATEST; late++) {
            if (carriedTo(letter, late, book.today) == home) {
                return late;
            }
        }
        return NEVER;
    }

    public int days(int letter, int late, int n) {
        if (!isLetter(letter) || !isLate(late) || n < 1 || n > 1000) {
            return NONE;
        }
        int home = homeOf(letter);
        long first = NONE;
        int count = 0;
        for (int i = 0; i < n; i++) {
            if (carriedTo(letter, late, book.today + i) == home) {
                first = count == 0 ? book.today + i : first;
                count++;
            }
        }
        told.tell(first);
        return count;
    }

    public int postman(int n) {
        if (n < 1 || n > MOST_POSTMAN_DAYS || book.letters < 1) {
            return NONE;
        }
        countBrought(n);
        int best = 0;
        int most = broughtBy(0, n);
        int punctual = most;
        for (int late = 1; late <= LATEST; late++) {
            int count = broughtBy(late, n);
            if (count > most) {
                most = count;
                best = late;
            }
        }
        told.tell(most, punctual);
        return best;
    }

    public int travels(int letter, int late) {
        if (!isLetter(letter) || !isLate(late)) {
            return NONE;
        }
        return sendOn(letter, late, false);
    }

    public int round(int place, int letters, int minutes) {
        if (!isPlace(place) || !isChoice(letters, book.letters, 6) || minutes < 1 || minutes > 999) {
            return NONE;
        }
        tour.open(ROUND_DAYS, minutes);
        for (int letter = 0; letter < book.letters; letter++) {
            for (int day = 0; day < ROUND_DAYS; day++) {
                int street = almanac.bearerOn(book.letterNames[letter], book.today + day);
                tour.houses[letter][day] = roads.house(street);
            }
        }
        return tellTour(place, letters);
    }

    public int rule() {
        int answer = lateRule.read(text);
        text.cut(0);
        return answer;
    }

    public int late(int letter, int k, int street) throws NoSuchElementException {
        if (!isLetter(letter) || k < 0 || !isStreet(street)) {
            throw new NoSuchElementException();
        }
        return lateByRule(letter, k, street, book.today);
    }

    public int sends(int letter) {
        if (!isLetter(letter)) {
            return NONE;
        }
        return sendOn(letter, 0, true);
    }

    public int walk(int place, int streets) {
        if (!isPlace(place) || !isChoice(streets, book.streets, Tour.MOST_STOPS)) {
            return NONE;
        }
        tour.open(1, ENDLESS_DAY);
        for (int street = 0; street < book.streets; street++) {
            tour.houses[street][0] = roads.house(street);
        }
        return tellTour(place, streets);
    }

    public int meet(int letters) {
        if (!isChoice(letters, book.letters, MOST_LETTERS)) {
            return NONE;
        }
        int best = NEVER;
        int least = 0;
        for (int place = 0; place < MOST_PLACES; place++) {
            int sum = sumToHomes(place, letters);
            if (sum >= 0 && (best < 0 || sum < least)) {
                least = sum;
                best = place;
            }
        }
        if (best >= 0) {
            told.tell(least, farthestHome(best, letters));
        }
        return best;
    }

    // ---- the council

    public int wish(int sort, int street, int number) {
        if (!isStreet(street)) {
            return NONE;
        }
        boolean allowed;
        switch (sort) {
            case 0:
                allowed = isStreet(number) && number != street;
                break;
            case 1:
            case 2:
                allowed = number >= 1 && number <= 12;
                break;
            case 3:
                allowed = isStreet(number);
                break;
            default:
                allowed = false;
        }
        return allowed ? council.addWish(sort, street, number) : NONE;
    }

    public int kept() {
        int they = 0;
        for (int wish = 0; wish < council.size; wish++) {
            if (council.isKept(wish, book, almanac)) {
                they |= 1 << wish;
            }
        }
        return they;
    }

    public int choose(int wishes) {
        int ways = chooseOrder(wishes);
        if (ways >= 0) {
            tellFound();
        }
        return ways;
    }

    public int proof() {
        if (book.streets > FEW_STREETS) {
            return TOO_MANY;
        }
        int they = council.fewestTogether(book.streets);
        if (they != 0) {
            told.tell(they);
        }
        return Integer.bitCount(they);
    }

    public int decree(int wishes) {
        int ways = chooseOrder(wishes);
        if (ways > 0) {
            book.orders = 1;
            book.stayAll(0);
            System.arraycopy(council.found, 0, book.nexts[0], 0, council.foundSize);
            book.today = 0;
            reckonAnew();
        }
        return ways;
    }

    public boolean swap(int a, int b) {
        if (!isOrder(a) || !isOrder(b)) {
            return false;
        }
        for (int street = 0; street < MOST_STREETS; street++) {
            int held = book.nexts[a][street];
            book.nexts[a][street] = book.nexts[b][street];
            book.nexts[b][street] = held;
        }
        almanac.reckon(book);
        return true;
    }

    public int soonest() {
        if (book.orders < 2) {
            return NONE;
        }
        int least = Almanac.MOST_TURN + 1;
        int first = 0;
        int second = 0;
        for (int a = 0; a < book.orders; a++) {
            for (int b = a + 1; b < book.orders; b++) {
                int day = Almanac.firstOwnDay(book, a, b);
                if (day < least) {
                    least = day;
                    first = a;
                    second = b;
                }
            }
        }
        told.tell(first, second);
        told.add(almanac.firstOwn);
        return least;
    }

    // ---- kept

    public boolean keep(int i) {
        if (i < 0 || i >= keptBooks.length) {
            return false;
        }
        keptBooks[i].copyFrom(book);
        keptBooks[i].written = true;
        return true;
    }

    public boolean again(int i) {
        if (i < 0 || i >= keptBooks.length) {
            return false;
        }
        Book kept = keptBooks[i];
        if (!kept.written || kept.streets != book.streets) {
            return false;
        }
        book.copyFrom(kept);
        reckonAnew();
        return true;
    }

    public int count(int what) {
        switch (what) {
            case 0:
                return book.streets;
            case 1:
                return book.orders;
            case 2:
                return book.letters;
            case 3:
                return council.size;
            case 4:
                return told.size;
            case 5:
                return text.size;
            default:
                return NONE;
        }
    }

    public long today() {
        return book.today;
    }

    public long row(int i) throws NoSuchElementException {
        if (i < 0 || i >= told.size) {
            throw new NoSuchElementException();
        }
        return told.numbers[i];
    }

    // ---- what may be told to a call

    private boolean isStreet(int street) {
        return street >= 0 && street < book.streets;
    }

    private boolean isOrder(int order) {
        return order >= 0 && order < book.orders;
    }

    private boolean isLetter(int letter) {
        return letter >= 0 && letter < book.letters;
    }

    private static boolean isPlace(int place) {
        return place >= 0 && place < MOST_PLACES;
    }

    private static boolean isDay(long day) {
        return day >= 0 && day <= LAST_DAY;
    }

    private static boolean isLate(int late) {
        return late >= 0 && late <= LATEST;
    }

    private static boolean isSpan(long from, long to, int most) {
        return isDay(from) && isDay(to) && to >= from && to - from < most;
    }

    /** Bits of at least one and at most so many of what there is. */
    private static boolean isChoice(int bits, int there, int most) {
        return bits > 0 && bits >>> there == 0 && Integer.bitCount(bits) <= most;
    }

    // ---- what several calls need

    private void reckonAnew() {
        roads.measure(book);
        almanac.reckon(book);
    }

    private int orderBehind(long day) {
        return book.orders > 0 ? (int) (day % book.orders) : 0;
    }

    private static int sheetLength(int kind, int entry) {
        int length = entry;
        if (kind == 0) {
            length = (byte) entry;
        } else if (kind == 1) {
            length = (short) entry;
        }
        return Math.max(1, Math.min(LONGEST, length));
    }

    private int ownNames(int day) {
        int own = 0;
        for (int street = 0; street < book.streets; street++) {
            if (almanac.nameOn(street, day) == street) {
                own++;
            }
        }
        return own;
    }

    private int homeOf(int letter) {
        return almanac.bearerOn(book.letterNames[letter], book.letterDays[letter]);
    }

    private int misreadHome(int letter, int shift) {
        return almanac.bearerShifted(book, book.letterNames[letter], book.letterDays[letter], shift);
    }

    private int betweenHouses(int street, int other) {
        return roads.between(roads.house(street), roads.house(other));
    }

    /** Tells which STREETS bear a NAME on DAYS first, first and stride, .. */
    private int tellBearers(int name, long first, int days, int stride) {
        Arrays.fill(tally, 0);
        int they = 0;
        for (int i = 0; i < days; i++) {
            int street = almanac.bearerOn(name, first + (long) i * stride);
            tally[street]++;
            they |= 1 << street;
        }
        int likeliest = 0;
        for (int street = 1; street < book.streets; street++) {
            if (tally[street] > tally[likeliest]) {
                likeliest = street;
            }
        }
        told.tell(Integer.bitCount(they), likeliest);
        told.add(tally[likeliest]);
        return they;
    }

    /** The length of a STREET's CYCLE, or 0 if a lower STREET is in it: so each is met once. */
    private int cycleIfFirst(int[] nexts, int street) {
        int at = nexts[street];
        for (int length = 1; length <= book.streets; length++) {
            if (at == street) {
                return length;
            }
            if (at < street) {
                return 0;
            }
            at = nexts[at];
        }
        return 0;
    }

    private int chooseOrder(int wishes) {
        if (wishes < 0 || wishes >>> council.size != 0) {
            return NONE;
        }
        if (book.streets > FEW_STREETS) {
            return TOO_MANY;
        }
        return council.ordersKeeping(book.streets, wishes);
    }

    private void tellFound() {
        told.clear();
        for (int i = 0; i < council.foundSize; i++) {
            told.add(council.found[i]);
        }
    }

    private int tellTour(int place, int stops) {
        int minutes = tour.plan(roads, place, stops);
        if (minutes < 0) {
            return NEVER;
        }
        told.clear();
        for (int i = 0; i < tour.bestSize; i++) {
            told.add(tour.bestStops[i]);
        }
        return minutes;
    }

    private int carriedTo(int letter, int late, long day) {
        return almanac.bearerOn(book.letterNames[letter], Math.max(0, day - late));
    }

    /** Entry i is for NAMES of DAY (TODAY less LATEST, and i), so that all postmen share them. */
    private void countBrought(int n) {
        Arrays.fill(brought, 0);
        for (int letter = 0; letter < book.letters; letter++) {
            int home = homeOf(letter);
            for (int i = 0; i < LATEST + n; i++) {
                if (carriedTo(letter, LATEST - i, book.today) == home) {
                    brought[i]++;
                }
            }
        }
    }

    private int broughtBy(int late, int n) {
        int count = 0;
        for (int i = 0; i < n; i++) {
            count += brought[LATEST - late + i];
        }
        return count;
    }

    /** How long a LETTER is sent on, by THE RULE or by postmen each of whom is later than the last. */
    private int sendOn(int letter, int late, boolean byRule) {
        int home = homeOf(letter);
        int lies = book.letterNames[letter];
        int houses = 0;
        int sum = 0;
        boolean cut = false;
        int answer = NEVER;
        for (int day = 0; day <= MOST_SENT_DAYS && answer < 0; day++) {
            long today = book.today + day;
            int ago = byRule ? lateByRule(letter, day, lies, today) : Math.min(LATEST, late + day);
            int street = carriedTo(letter, ago, today);
            if (day > 0) {
                int way = betweenHouses(lies, street);
                cut = cut || way == NO_WAY;
                sum += way;
            }
            lies = street;
            houses |= 1 << street;
            if (street == home) {
                answer = day;
            }
        }
        told.tell(Integer.bitCount(houses), cut ? NONE : sum);
        return answer;
    }

    private int lateByRule(int letter, int carried, int lies, long day) {
        long ago = day - book.letterDays[letter];
        int[] values = lateRule.values;
        values[0] = (int) Math.max(-9999, Math.min(9999, ago));
        values[1] = carried;
        values[2] = book.letterNames[letter];
        values[3] = lies;
        values[4] = orderBehind(day);
        values[5] = book.orders;
        return Math.max(0, Math.min(LATEST, lateRule.reckon()));
    }

    /** NONE if there is no way to one of them. */
    private int sumToHomes(int place, int letters) {
        int sum = 0;
        for (int letter = 0; letter < book.letters; letter++) {
            if ((letters >> letter & 1) != 0) {
                int way = roads.between(place, roads.house(homeOf(letter)));
                if (way == NO_WAY) {
                    return NONE;
                }
                sum += way;
            }
        }
        return sum;
    }

    private int farthestHome(int place, int letters) {
        int most = 0;
        for (int letter = 0; letter < book.letters; letter++) {
            if ((letters >> letter & 1) != 0) {
                most = Math.max(most, roads.between(place, roads.house(homeOf(letter))));
            }
        }
        return most;
    }

    /** THE TEXT. */
    private static final class Text {
        private static final int MOST_SIGNS = 80;
        private static final int NO_SIGN = -1;

        private final char[] signs = new char[MOST_SIGNS];
        private int size;

        int add(int v) {
            if (size > MOST_SIGNS - 4) {
                return NONE;
            }
            for (int shift = 24; shift >= 0; shift -= 8) {
                signs[size] = (char) (v >>> shift & 255);
                size++;
            }
            return size;
        }

        boolean cut(int n) {
            if (n < 0 || n > size) {
                return false;
            }
            size = n;
            return true;
        }

        int signAt(int at, int stop) {
            return at >= 0 && at < stop && at < size ? signs[at] : NO_SIGN;
        }

        /** The number that a digit tells, or NONE. */
        int digitAt(int at, int stop) {
            int sign = signAt(at, stop);
            return sign >= '0' && sign <= '9' ? sign - '0' : NONE;
        }
    }

    /** THE ROW. */
    private static final class Row {
        private final long[] numbers = new long[MOST_STREETS];
        private int size;

        void clear() {
            size = 0;
        }

        void add(long number) {
            if (size < numbers.length) {
                numbers[size] = number;
                size++;
            }
        }

        void tell(long number) {
            clear();
            add(number);
        }

        void tell(long number, long other) {
            tell(number);
            add(other);
        }
    }

    /** What keep() keeps, and how many STREETS there were then. */
    private static final class Book {
        private final int[][] nexts = new int[MOST_ORDERS][MOST_STREETS];
        private final int[] lengths = new int[MOST_STREETS];
        private final int[] letterNames = new int[MOST_LETTERS];
        private final long[] letterDays = new long[MOST_LETTERS];
        private int streets;
        private int orders;
        private int letters;
        private long today;
        private boolean written;

        void copyFrom(Book other) {
            for (int order = 0; order < MOST_ORDERS; order++) {
                System.arraycopy(other.nexts[order], 0, nexts[order], 0, MOST_STREETS);
            }
            System.arraycopy(other.lengths, 0, lengths, 0, MOST_STREETS);
            System.arraycopy(other.letterNames, 0, letterNames, 0, MOST_LETTERS);
            System.arraycopy(other.letterDays, 0, letterDays, 0, MOST_LETTERS);
            streets = other.streets;
            orders = other.orders;
            letters = other.letters;
            today = other.today;
        }

        /** STREETS that are not told yet stay too, so that nothing is to be done when they come. */
        void stayAll(int order) {
            for (int street = 0; street < MOST_STREETS; street++) {
                nexts[order][street] = street;
            }
        }
    }

    /** Where STREETS are, and FAR of all PLACES. */
    private static final class Roads {
        private final int[] firsts = new int[MOST_STREETS];
        private final int[] others = new int[MOST_STREETS];
        private final int[][] ways = new int[MOST_PLACES][MOST_PLACES];

        Roads() {
            stayAway();
        }

        int house(int street) {
            return firsts[street];
        }

        int farEnd(int street) {
            return others[street];
        }

        int between(int a, int b) {
            return ways[a][b];
        }

        void measure(Book book) {
            stayAway();
            for (int street = 0; street < book.streets; street++) {
                int a = firsts[street];
                int b = others[street];
                int way = Math.min(ways[a][b], book.lengths[street]);
                ways[a][b] = way;
                ways[b][a] = way;
            }
            for (int by = 0; by < MOST_PLACES; by++) {
                shortenBy(by);
            }
        }

        private void stayAway() {
            for (int a = 0; a < MOST_PLACES; a++) {
                for (int b = 0; b < MOST_PLACES; b++) {
                    ways[a][b] = a == b ? 0 : NO_WAY;
                }
            }
        }

        private void shortenBy(int by) {
            for (int a = 0; a < MOST_PLACES; a++) {
                for (int b = 0; b < MOST_PLACES; b++) {
                    ways[a][b] = Math.min(ways[a][b], ways[a][by] + ways[by][b]);
                }
            }
        }
    }

    /**
     * NAMES of all DAYS of one turn, behind which all is as on DAY 0 and the next midnight is by
     * ORDER 0 too. A DAY is one long, four bits a STREET, so that a turn takes little room.
     */
    private static final class Almanac {
        /** An ORDER of 12 STREETS is undone by itself in 60 times at most, and so is a week. */
        private static final int MOST_TURN = 60 * MOST_ORDERS;

        private final long[] names = new long[MOST_TURN];
        private final long[] bearers = new long[MOST_TURN];
        private int turn = 1;
        private int firstOwn = 1;

        int nameOn(int street, long day) {
            return part(names[slot(day)], street);
        }

        int bearerOn(int name, long day) {
            return part(bearers[slot(day)], name);
        }

        int namesEver(int street) {
            int they = 0;
            for (int day = 0; day < turn; day++) {
                they |= 1 << nameOn(street, day);
            }
            return they;
        }

        /** A week that begins later needs as many DAYS till all is as it was: slot() serves it too. */
        int bearerShifted(Book book, int name, long day, int shift) {
            int street = name;
            int nights = book.orders > 0 ? slot(day) : 0;
            for (int night = 0; night < nights; night++) {
                street = streetAhead(book, (night + shift) % book.orders, street);
            }
            return street;
        }

        void reckon(Book book) {
            long own = ownNames(book.streets);
            names[0] = own;
            bearers[0] = own;
            turn = 1;
            firstOwn = firstOwnDay(book, 0, 0);
            if (book.streets < 1 || book.orders < 1) {
                return;
            }
            long now = own;
            for (int day = 1; day <= MOST_TURN; day++) {
                now = stepped(now, book.nexts[(day - 1) % book.orders], book.streets);
                turn = day;
                if (now == own && day % book.orders == 0 || day == MOST_TURN) {
                    return;
                }
                names[day] = now;
                bearers[day] = turnedRound(now, book.streets);
            }
        }

        /** What period() would tell, if ORDERS a and b had changed their places. */
        static int firstOwnDay(Book book, int a, int b) {
            if (book.streets < 1 || book.orders < 1) {
                return 1;
            }
            long own = ownNames(book.streets);
            long now = own;
            for (int day = 1; day <= MOST_TURN; day++) {
                int order = (day - 1) % book.orders;
                int taken = order == a ? b : order == b ? a : order;
                now = stepped(now, book.nexts[taken], book.streets);
                if (now == own) {
                    return day;
                }
            }
            return MOST_TURN;
        }

        private int slot(long day) {
            return day >= 0 && turn > 0 && turn <= MOST_TURN ? (int) (day % turn) : 0;
        }

        private static int part(long all, int i) {
            return (int) ((all >>> (4 * i)) & 15);
        }

        private static long ownNames(int streets) {
            long own = 0;
            for (int street = 0; street < streets; street++) {
                own |= (long) street << (4 * street);
            }
            return own;
        }

        private static long stepped(long before, int[] nexts, int streets) {
            long now = 0;
            for (int street = 0; street < streets; street++) {
                now |= (long) part(before, nexts[street]) << (4 * street);
            }
            return now;
        }

        private static long turnedRound(long all, int streets) {
            long round = 0;
            for (int street = 0; street < streets; street++) {
                round |= (long) street << (4 * part(all, street));
            }
            return round;
        }

        private static int streetAhead(Book book, int order, int street) {
            for (int ahead = 0; ahead < book.streets; ahead++) {
                if (book.nexts[order][ahead] == street) {
                    return ahead;
                }
            }
            return street;
        }
    }

    /**
     * Reads what a text tells of THE TOWN. LINES are written behind what there is, and count only
     * when all of them could be read.
     */
    private static final class TownReader {
        private static final int MOST_SIGNS = 76;

        private int stop;
        private int streets;
        private int orders;

        /** How many LINES, or -1 - p. */
        int read(Text text, Book book, Roads roads) {
            stop = Math.min(text.size, MOST_SIGNS);
            streets = book.streets;
            orders = book.orders;
            int at = 0;
            int lines = 0;
            boolean more = text.size > 0;
            while (more && lines <= MOST_SIGNS) {
                at = line(text, book, roads, at);
                if (at < 0) {
                    return at;
                }
                lines++;
                more = text.signAt(at, stop) == ';';
                if (more) {
                    at++;
                }
            }
            if (at < text.size) {
                return -1 - at;
            }
            book.streets = streets;
            book.orders = orders;
            return lines;
        }

        /** Like all that read a part: the place behind it, or -1 - p. */
        private int line(Text text, Book book, Roads roads, int at) {
            if (text.digitAt(at, stop) >= 0 && streets < MOST_STREETS) {
                return streetLine(text, book, roads, at);
            }
            if (text.signAt(at, stop) == 'o' && orders < MOST_ORDERS) {
                return orderLine(text, book, at);
            }
            return -1 - at;
        }

        private int streetLine(Text text, Book book, Roads roads, int at) {
            int first = text.digitAt(at, stop);
            if (text.signAt(at + 1, stop) != '-') {
                return -1 - (at + 1);
            }
            int other = text.digitAt(at + 2, stop);
            if (other < 0 || other == first) {
                return -1 - (at + 2);
            }
            if (text.signAt(at + 3, stop) != ',') {
                return -1 - (at + 3);
            }
            int length = text.digitAt(at + 4, stop);
            if (length < 0) {
                return -1 - (at + 4);
            }
            int last = at + 4;
            int digit = text.digitAt(at + 5, stop);
            if (digit >= 0) {
                length = 10 * length + digit;
                last = at + 5;
            }
            if (length < 1 || length > LONGEST) {
                return -1 - last;
            }
            roads.firsts[streets] = first;
            roads.others[streets] = other;
            book.lengths[streets] = length;
            streets++;
            return last + 1;
        }

        private int orderLine(Text text, Book book, int start) {
            int[] nexts = book.nexts[orders];
            book.stayAll(orders);
            int named = 0;
            int first = NONE;
            int last = NONE;
            int at = start + 1;
            for (; at < stop && text.signAt(at, stop) != ';'; at++) {
                int sign = text.signAt(at, stop);
                if (sign == '.' && first >= 0) {
                    first = NONE;
                    continue;
                }
                int street = sign - 'a';
                if (street < 0 || street >= streets || (named >> street & 1) != 0) {
                    return -1 - at;
                }
                named |= 1 << street;
                if (first < 0) {
                    first = street;
                } else {
                    nexts[last] = street;
                }
                nexts[street] = first;
                last = street;
            }
            boolean behindPoint = first < 0 && named != 0;
            if (behindPoint) {
                return -1 - at;
            }
            orders++;
            return at;
        }
    }

    /** THE RULE, kept as steps for a stack, so that a text is read only once. */
    private static final class Rule {
        private static final int MOST_SIGNS = 40;
        private static final int DEEPEST = 4;
        private static final int MOST_DIGITS = 3;
        private static final String THINGS = "aknswo";
        /** Numbers are steps below this one, things from it on, signs that reckon below 0. */
        private static final int FIRST_THING = 1000;
        private static final int NEGATE = -'~';

        private final int[] values = new int[6];
        private final int[] draft = new int[MOST_SIGNS];
        private final int[] steps = new int[MOST_SIGNS];
        private final int[] stack = new int[MOST_SIGNS];
        private int drafted;
        private int size;
        private int stop;

        /** 0, or -1 - p: then THE RULE is as it was. */
        int read(Text text) {
            stop = Math.min(text.size, MOST_SIGNS);
            drafted = 0;
            if (text.size > 0) {
                int at = comparison(text, 0, 0);
                if (at < 0) {
                    return at;
                }
                if (at < text.size) {
                    return -1 - at;
                }
            }
            System.arraycopy(draft, 0, steps, 0, drafted);
            size = drafted;
            return 0;
        }

        int reckon() {
            int height = 0;
            for (int i = 0; i < size; i++) {
                int step = steps[i];
                if (step >= 0 && height < stack.length) {
                    stack[height] = step < FIRST_THING ? step : values[step - FIRST_THING];
                    height++;
                } else if (step == NEGATE && height > 0) {
                    stack[height - 1] = -stack[height - 1];
                } else if (height > 1) {
                    height--;
                    stack[height - 1] = reckoned(-step, stack[height - 1], stack[height]);
                }
            }
            return height > 0 ? stack[0] : 0;
        }

        private static int reckoned(int sign, int a, int b) {
            switch (sign) {
                case '+':
                    return a + b;
                case '-':
                    return a - b;
                case '*':
                    return a * b;
                case '/':
                    return b == 0 ? 0 : a / b;
                case '%':
                    return b == 0 ? 0 : a % b;
                case '<':
                    return a < b ? 1 : 0;
                case '>':
                    return a > b ? 1 : 0;
                default:
                    return a == b ? 1 : 0;
            }
        }

        private void note(int step) {
            if (drafted < draft.length) {
                draft[drafted] = step;
                drafted++;
            }
        }

        private static boolean isOneOf(String signs, int sign) {
            return sign >= 0 && signs.indexOf((char) sign) >= 0;
        }

        private int comparison(Text text, int start, int depth) {
            int at = sum(text, start, depth);
            if (at < 0) {
                return at;
            }
            int sign = text.signAt(at, stop);
            if (!isOneOf("<>=", sign)) {
                return at;
            }
            at = sum(text, at + 1, depth);
            note(-sign);
            return at;
        }

        private int sum(Text text, int start, int depth) {
            int at = product(text, start, depth);
            for (int i = 0; i < MOST_SIGNS && at >= 0; i++) {
                int sign = text.signAt(at, stop);
                if (!isOneOf("+-", sign)) {
                    return at;
                }
                at = product(text, at + 1, depth);
                note(-sign);
            }
            return at;
        }

        private int product(Text text, int start, int depth) {
            int at = signed(text, start, depth);
            for (int i = 0; i < MOST_SIGNS && at >= 0; i++) {
                int sign = text.signAt(at, stop);
                if (!isOneOf("*/%", sign)) {
                    return at;
                }
                at = signed(text, at + 1, depth);
                note(-sign);
            }
            return at;
        }

        private int signed(Text text, int start, int depth) {
            int at = start;
            while (at < stop && text.signAt(at, stop) == '-') {
                at++;
            }
            int behind = thing(text, at, depth);
            boolean odd = (at - start & 1) != 0;
            if (odd) {
                note(NEGATE);
            }
            return behind;
        }

        private int thing(Text text, int at, int depth) {
            int sign = text.signAt(at, stop);
            if (sign == '(' && depth < DEEPEST) {
                int behind = comparison(text, at + 1, depth + 1);
                if (behind < 0) {
                    return behind;
                }
                return text.signAt(behind, stop) == ')' ? behind + 1 : -1 - behind;
            }
            if (isOneOf(THINGS, sign)) {
                note(FIRST_THING + THINGS.indexOf((char) sign));
                return at + 1;
            }
            return number(text, at);
        }

        private int number(Text text, int start) {
            int value = 0;
            int at = start;
            for (; at < start + MOST_DIGITS; at++) {
                int digit = text.digitAt(at, stop);
                if (digit < 0) {
                    break;
                }
                value = 10 * value + digit;
            }
            if (at == start) {
                return -1 - at;
            }
            note(value);
            return at;
        }
    }

    /** WISHES, and every way that one ORDER of few STREETS could be, the least row of NEXT first. */
    private static final class Council {
        private static final int MOST_WAYS = 720;

        private final int[] sorts = new int[MOST_WISHES];
        private final int[] streets = new int[MOST_WISHES];
        private final int[] numbers = new int[MOST_WISHES];
        private int size;
        private final int[] way = new int[FEW_STREETS];
        private int waySize;
        private final int[] found = new int[FEW_STREETS];
        private int foundSize;

        int addWish(int sort, int street, int number) {
            if (size >= MOST_WISHES) {
                return NONE;
            }
            sorts[size] = sort;
            streets[size] = street;
            numbers[size] = number;
            size++;
            return size - 1;
        }

        boolean isKept(int wish, Book book, Almanac almanac) {
            int street = streets[wish];
            int number = numbers[wish];
            switch (sorts[wish]) {
                case 0:
                    return (almanac.namesEver(street) >> number & 1) == 0;
                case 1:
                    for (int day = 1; day <= number; day++) {
                        if (almanac.nameOn(street, day) == street) {
                            return true;
                        }
                    }
                    return false;
                case 2:
                    return almanac.nameOn(street, number) != street;
                default:
                    for (int order = 0; order < book.orders; order++) {
                        if (book.nexts[order][street] == number) {
                            return false;
                        }
                    }
                    return true;
            }
        }

        /** How many ORDERS alone keep WISHES; the first of them is found. */
        int ordersKeeping(int streetCount, int wishes) {
            int count = 0;
            startWays(streetCount);
            for (int i = 0; i < MOST_WAYS; i++) {
                if ((keptByWay() & wishes) == wishes) {
                    count++;
                    noteFound(count);
                }
                if (!advance()) {
                    break;
                }
            }
            return count;
        }

        /** How many ORDERS, done n times, are a given one; the first of them is found. */
        int ordersDone(Book book, int order, int n) {
            int count = 0;
            startWays(book.streets);
            for (int i = 0; i < MOST_WAYS; i++) {
                if (isRoot(book.nexts[order], n)) {
                    count++;
                    noteFound(count);
                }
                if (!advance()) {
                    break;
                }
            }
            return count;
        }

        /** The fewest WISHES (bits) that no ORDER alone keeps together; 0 if one keeps all. */
        int fewestTogether(int streetCount) {
            long keptSets = 0;
            startWays(streetCount);
            for (int i = 0; i < MOST_WAYS; i++) {
                keptSets |= 1L << keptByWay();
                if (!advance()) {
                    break;
                }
            }
            int fewest = 0;
            for (int they = 1; they < 1 << size; they++) {
                boolean fewer = fewest == 0 || Integer.bitCount(they) < Integer.bitCount(fewest);
                if (fewer && !isWithinOne(keptSets, they)) {
                    fewest = they;
                }
            }
            return fewest;
        }

        private boolean isWithinOne(long keptSets, int they) {
            for (int set = 0; set < 1 << size; set++) {
                if ((keptSets >>> set & 1) != 0 && (set & they) == they) {
                    return true;
                }
            }
            return false;
        }

        private int keptByWay() {
            int they = 0;
            for (int wish = 0; wish < size; wish++) {
                if (isKeptByWay(wish)) {
                    they |= 1 << wish;
                }
            }
            return they;
        }

        private boolean isKeptByWay(int wish) {
            int street = streets[wish];
            int number = numbers[wish];
            switch (sorts[wish]) {
                case 0:
                    return !isInCycle(street, number);
                case 1:
                    return cycleLength(street) <= number;
                case 2:
                    return number % cycleLength(street) != 0;
                default:
                    return way[street] != number;
            }
        }

        private boolean isInCycle(int street, int other) {
            int at = street;
            for (int i = 0; i < waySize; i++) {
                if (at == other) {
                    return true;
                }
                at = way[at];
            }
            return false;
        }

        private int cycleLength(int street) {
            int at = way[street];
            int length = 1;
            while (at != street && length < waySize) {
                at = way[at];
                length++;
            }
            return length;
        }

        private boolean isRoot(int[] nexts, int n) {
            for (int street = 0; street < waySize; street++) {
                int at = street;
                for (int i = 0; i < n; i++) {
                    at = way[at];
                }
                if (at != nexts[street]) {
                    return false;
                }
            }
            return true;
        }

        private void startWays(int streetCount) {
            waySize = Math.min(streetCount, way.length);
            foundSize = 0;
            for (int street = 0; street < waySize; street++) {
                way[street] = street;
            }
        }

        private void noteFound(int count) {
            if (count == 1) {
                System.arraycopy(way, 0, found, 0, waySize);
                foundSize = waySize;
            }
        }

        /** To the next row of NEXT; false behind the last one. */
        private boolean advance() {
            int rise = waySize - 2;
            while (rise >= 0 && way[rise] > way[rise + 1]) {
                rise--;
            }
            if (rise < 0) {
                return false;
            }
            int above = waySize - 1;
            while (above > rise && way[above] < way[rise]) {
                above--;
            }
            exchange(rise, above);
            int low = rise + 1;
            int high = waySize - 1;
            while (low < high) {
                exchange(low, high);
                low++;
                high--;
            }
            return true;
        }

        private void exchange(int a, int b) {
            int held = way[a];
            way[a] = way[b];
            way[b] = held;
        }
    }

    /** How to ask for the HOME of a LETTER whose DAY is one of some: sets of DAYS are bits. */
    private static final class Inquiry {
        private static final int MOST_DAYS = 60;

        /** Of a STREET and a NAME: DAYS on which it bears it. */
        private final long[][] daysOf = new long[FEW_STREETS][FEW_STREETS];
        private int streets;
        private int name;
        private long all;
        private int firstAsked;

        void open(Almanac almanac, int streetCount, int lookedFor, long from, int days) {
            streets = Math.min(streetCount, FEW_STREETS);
            name = lookedFor;
            all = (1L << days) - 1;
            for (int street = 0; street < streets; street++) {
                Arrays.fill(daysOf[street], 0);
                for (int day = 0; day < days; day++) {
                    daysOf[street][almanac.nameOn(street, from + day)] |= 1L << day;
                }
            }
        }

        int homes() {
            int count = 0;
            for (int street = 0; street < streets; street++) {
                if (daysOf[street][name] != 0) {
                    count++;
                }
            }
            return count;
        }

        int fewest() {
            firstAsked = NONE;
            if (isKnown(all)) {
                return 0;
            }
            for (int asks = 1; asks <= FEW_STREETS; asks++) {
                for (int street = 0; street < streets; street++) {
                    if (tells(all, street, asks)) {
                        firstAsked = street;
                        return asks;
                    }
                }
            }
            return FEW_STREETS;
        }

        private boolean isKnown(long days) {
            for (int street = 0; street < streets; street++) {
                if ((daysOf[street][name] & days) == days) {
                    return true;
                }
            }
            return false;
        }

        private boolean suffice(long days, int asks) {
            if (isKnown(days)) {
                return true;
            }
            if (asks < 1) {
                return false;
            }
            for (int street = 0; street < streets; street++) {
                if (tells(days, street, asks)) {
                    return true;
                }
            }
            return false;
        }

        /** Whether so many askings do, the first one of them in a STREET. */
        private boolean tells(long days, int street, int asks) {
            for (int heard = 0; heard < streets; heard++) {
                long left = daysOf[street][heard] & days;
                boolean nothingNew = left == days;
                if (nothingNew || left != 0 && !suffice(left, asks - 1)) {
                    return false;
                }
            }
            return true;
        }
    }

    /** The best order of stops whose HOUSES may be others on each DAY. */
    private static final class Tour {
        private static final int MOST_STOPS = 7;

        private final int[][] houses = new int[MOST_STREETS][ROUND_DAYS];
        private final int[] stops = new int[MOST_STOPS];
        private final int[] bestStops = new int[MOST_STOPS];
        private int bestSize;
        private int least;
        private int days;
        private int minutes;

        void open(int dayCount, int minutesOfDay) {
            days = Math.min(dayCount, ROUND_DAYS);
            minutes = Math.max(1, minutesOfDay);
        }

        /** The fewest minutes, or NONE. One always comes before the last DAY ends, so that is the start. */
        int plan(Roads roads, int place, int wanted) {
            least = days * minutes;
            bestSize = 0;
            goOn(roads, place, 0, wanted, 0);
            return bestSize > 0 ? least : NONE;
        }

        /** Stops are tried from the lowest on, and only what is sooner is taken: the least row stays. */
        private void goOn(Roads roads, int place, int now, int left, int depth) {
            if (left == 0) {
                least = now;
                bestSize = depth;
                System.arraycopy(stops, 0, bestStops, 0, depth);
                return;
            }
            if (depth >= MOST_STOPS) {
                return;
            }
            for (int stop = 0; stop < MOST_STREETS; stop++) {
                int day = (left >> stop & 1) != 0 ? comingDay(roads, place, now, stop) : NONE;
                if (day >= 0) {
                    int house = houses[stop][day];
                    int come = Math.max(now + roads.between(place, house), day * minutes);
                    if (come < least) {
                        stops[depth] = stop;
                        goOn(roads, house, come, left & ~(1 << stop), depth + 1);
                    }
                }
            }
        }

        /** The first DAY on which one can be at a stop's HOUSE before it ends, or NONE. */
        private int comingDay(Roads roads, int place, int now, int stop) {
            for (int day = now / minutes; day < days; day++) {
                int way = roads.between(place, houses[stop][day]);
                if (way != NO_WAY && now + way < (day + 1) * minutes) {
                    return day;
                }
            }
            return NONE;
        }
    }
}
