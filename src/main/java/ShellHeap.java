import java.util.NoSuchElementException;

/**
 * A desk for a heap of shells that people left by a shore. The document ../shared/DOC.md numbers what it promises.
 *
 * <p>Every row is made by the constructors and used again: the calls themselves make no object.
 */
public final class ShellHeap {
    public static final int NONE = -1;

    /** What calls answer that already need NONE for something else. */
    private static final int REFUSED = -2;
    /** What Long names MIN_VALUE: the answer of a CAUSE that has no VALUE. */
    private static final long NO_VALUE = 1L << 63;

    private static final int MOST_LAYERS = 12;
    private static final int MOST_NOTES = 80;
    private static final int LAST_YEAR = 9999;

    private final Tape tape;
    private final Book book;
    private final Known known;
    private final Ground ground;
    private final Pantry pantry;
    private final Readers readers;
    private final Sizes sizes;
    private final FindsReader findsReader;
    private final RulesReader rulesReader;
    private final Judge judge;

    public ShellHeap() {
        tape = new Tape();
        book = new Book();
        known = new Known(book);
        ground = new Ground();
        pantry = new Pantry();
        readers = new Readers();
        sizes = new Sizes();
        findsReader = new FindsReader(tape, pantry);
        rulesReader = new RulesReader(tape);
        judge = new Judge(known, ground, pantry, readers, sizes);
    }

    // ---- texts ----

    public int feed(int a, int b, int c, int d, int e) {
        if (!tape.hasRoom()) {
            return NONE;
        }
        tape.put(a);
        tape.put(b);
        tape.put(c);
        tape.put(d);
        tape.put(e);
        return tape.fed;
    }

    public int rules(int n) {
        if (!tape.hasFed(n)) {
            return REFUSED;
        }
        return rulesReader.read(n) ? rulesReader.standing.causes : NONE;
    }

    public int finds(int n, int layer) {
        if (!tape.hasFed(n) || !book.hasLayer(layer) || book.isFull()) {
            return REFUSED;
        }
        if (!findsReader.read(n, book.notes)) {
            return NONE;
        }
        return book.write(Book.FINDS, layer, 0, 0);
    }

    public int fault(int what) {
        if (what == 0) {
            return tape.faultSort;
        }
        return what == 1 ? tape.faultPlace : NONE;
    }

    // ---- the book ----

    public int layer() {
        if (book.layers >= MOST_LAYERS) {
            return NONE;
        }
        book.layers++;
        return book.layers - 1;
    }

    public int note(int sort, int a, int b, int c) {
        if (!book.hasLayer(a)) {
            return NONE;
        }
        if (sort == Book.DATE) {
            return b >= 0 && b <= c && c <= LAST_YEAR ? book.write(sort, a, b, c) : NONE;
        }
        if (sort != Book.OVER && sort != Book.CUTS && sort != Book.ONE) {
            return NONE;
        }
        return book.hasLayer(b) && a != b ? book.write(sort, a, b, 0) : NONE;
    }

    public int strike(int note) {
        return note >= 0 && note < book.notes ? book.write(Book.STRIKE, note, 0, 0) : NONE;
    }

    public int bed(int n, int layer, int what) {
        if (!book.hasFirst(n) || !book.hasLayer(layer) || what < 0 || what > 4) {
            return REFUSED;
        }
        known.look(n);
        int bed = known.bedOf[layer];
        switch (what) {
            case 0:
                return bed;
            case 1:
                return Integer.bitCount(known.layersOf(bed));
            case 2:
                return known.rankOf(bed);
            case 3:
                return known.clash == 0 ? known.least[bed] : NONE;
            default:
                return known.clash == 0 ? known.greatest[bed] : NONE;
        }
    }

    public int order(int n, int a, int b) {
        if (!book.hasFirst(n) || !book.hasLayer(a) || !book.hasLayer(b)) {
            return NONE;
        }
        known.look(n);
        int first = known.bedOf[a];
        int second = known.bedOf[b];
        return (known.isLater(first, second) ? 1 : 0) + (known.isLater(second, first) ? 2 : 0);
    }

    public int quarrel(int n) {
        if (!book.hasFirst(n)) {
            return NONE;
        }
        known.look(n);
        return known.clash;
    }

    /** The LAYERS, as bits, of the BED of a LAYER that there is, as KNOWN by all NOTES. */
    private int bedNow(int layer) {
        known.look(book.notes);
        return known.layersOf(known.bedOf[layer]);
    }

    // ---- the heap and its columns ----

    public boolean heap(int w, int h) {
        return ground.lay(w, h);
    }

    public int column(int x, int y) {
        return ground.draw(x, y);
    }

    public boolean thick(int column, int layer, int cm) {
        if (column < 0 || column >= ground.columns || !book.hasLayer(layer) || cm < 0 || cm > Ground.THICKEST) {
            return false;
        }
        ground.thickness[column * MOST_LAYERS + layer] = cm;
        return true;
    }

    public int holds(int layer, int what) {
        if (!book.hasLayer(layer) || what < 0 || what > 2 || ground.columns == 0) {
            return NONE;
        }
        ground.weigh(bedNow(layer));
        if (what == 0) {
            return ground.whole;
        }
        return what == 1 ? ground.least : ground.greatest;
    }

    // ---- shells eaten ----

    public int kind(int meat, int valves) {
        return pantry.name(meat, valves);
    }

    public boolean kept(int kind, int sieve, int of16) {
        if (!pantry.hasKind(kind) || sieve < 0 || sieve >= Pantry.SIEVES || of16 < 1 || of16 > 16) {
            return false;
        }
        pantry.keeps[kind * Pantry.SIEVES + sieve] = of16;
        return true;
    }

    public long eaten(int layer, int kind, int what) {
        if (!book.hasLayer(layer) || what < 0 || what > 3 || (what < 2 && !pantry.hasKind(kind))) {
            return NONE;
        }
        pantry.gather(known, bedNow(layer));
        switch (what) {
            case 0:
                return pantry.leastNumber[kind];
            case 1:
                return pantry.righted[kind];
            case 2:
                return pantry.food;
            default:
                return pantry.lost;
        }
    }

    public long days(int layer, int aDay, int of100) {
        if (!book.hasLayer(layer) || aDay < 1 || aDay > 99999 || of100 < 1 || of100 > 100) {
            return NONE;
        }
        pantry.gather(known, bedNow(layer));
        return pantry.lasts(aDay, of100);
    }

    // ---- seasons ----

    public boolean reads(int reader, int season, int a, int b, int c, int d) {
        if (!Readers.has(reader) || season < 0 || season >= Readers.SEASONS) {
            return false;
        }
        if (!Readers.areWithin(16, a, b, c, d) || a + b + c + d != 16) {
            return false;
        }
        readers.setRow(reader, season, a, b, c, d);
        return true;
    }

    public int readings(int layer, int reader, int a, int b, int c, int d) {
        if (!book.hasLayer(layer) || !Readers.has(reader) || !Readers.areWithin(9, a, b, c, d)) {
            return NONE;
        }
        int more = a + b + c + d;
        int all = readers.sum(bedNow(layer), reader) + more;
        if (more == 0 || all > Readers.MOST_READINGS) {
            return NONE;
        }
        readers.tell(layer, reader, a, b, c, d);
        return all;
    }

    public int season(int layer, int reader, int what) {
        if (!book.hasLayer(layer) || !Readers.has(reader) || what < 0 || what > 5) {
            return NONE;
        }
        int bed = bedNow(layer);
        if (what == 5) {
            return readers.sum(bed, reader);
        }
        if (!readers.putRight(bed, reader)) {
            return NONE;
        }
        return what == 4 ? readers.miss : readers.died[what];
    }

    public int stay(int layer) {
        return book.hasLayer(layer) ? readers.seasonsMet(bedNow(layer)) : NONE;
    }

    // ---- sizes and why they fell ----

    public int measure(int layer, int size, int rings, int width) {
        return book.hasLayer(layer) ? sizes.add(layer, size, rings, width) : NONE;
    }

    public int middle(int layer, int what) {
        if (!book.hasLayer(layer) || what < 0 || what > 3) {
            return REFUSED;
        }
        int bed = bedNow(layer);
        return what == 3 ? sizes.measuredIn(bed) : sizes.middleOf(bed, what);
    }

    public long cause(int k, int layer) {
        if (k < 0 || k >= rulesReader.standing.causes || !book.hasLayer(layer)) {
            return NO_VALUE;
        }
        known.look(book.notes);
        judge.turnTo(known.bedOf[layer]);
        return judge.worthOf(rulesReader.standing, k);
    }

    public int why(int layer) {
        if (!book.hasLayer(layer)) {
            return NONE;
        }
        known.look(book.notes);
        judge.turnTo(known.bedOf[layer]);
        int only = NONE;
        for (int k = 0; k < rulesReader.standing.causes; k++) {
            long worth = judge.worthOf(rulesReader.standing, k);
            if (worth != 0 && worth != NO_VALUE) {
                if (only != NONE) {
                    return NONE;
                }
                only = k;
            }
        }
        return only;
    }

    public int count(int what) throws NoSuchElementException {
        switch (what) {
            case 0:
                known.look(book.notes);
                return known.bedsInAll();
            case 1:
                return book.layers;
            case 2:
                return book.notes;
            case 3:
                return ground.columns;
            case 4:
                return pantry.kinds;
            case 5:
                return sizes.measured;
            case 6:
                return rulesReader.standing.causes;
            case 7:
                return rulesReader.standing.knots;
            default:
                throw new NoSuchElementException("no such count");
        }
    }

    /** The bytes fed, the TOKEN of a text that is in hand, and the FAULT of the latest text. */
    private static final class Tape {
        static final int LONGEST = 700;
        static final int A_FEED = 20;

        static final int END = 0;
        static final int WORD = 1;
        static final int NUMBER = 2;
        static final int SIGN = 3;

        static final int CANT_STAND = 1;
        static final int TOO_MUCH = 2;
        static final int TOLD_ALREADY = 3;

        /** Above every number that a text may tell, so that longer rows of digits need not be worked out. */
        private static final int HUGE = 1000000;

        private final int[] bytes = new int[LONGEST];
        private int text = 0;
        private int at = 0;
        private boolean digitsJoin = false;
        int fed = 0;
        int start = 0;
        int end = 0;
        int sort = END;
        /** The sign in hand: its first byte, and 256 times its second one; NONE if no sign is in hand. */
        int sign = NONE;
        int faultSort = 0;
        int faultPlace = NONE;

        boolean hasRoom() {
            return fed + A_FEED <= LONGEST;
        }

        boolean hasFed(int n) {
            return n >= 0 && n <= fed;
        }

        void put(int four) {
            for (int shift = 24; shift >= 0 && fed < LONGEST; shift -= 8) {
                bytes[fed] = (four >>> shift) & 255;
                fed++;
            }
        }

        /** Empties the TAPE at once: its bytes stay in their row until the next feed, and the text is read before that. */
        void open(int n, boolean digitsJoinWords) {
            text = n;
            digitsJoin = digitsJoinWords;
            fed = 0;
            at = 0;
            faultSort = 0;
            faultPlace = NONE;
            next();
        }

        boolean fail(int fault) {
            faultSort = fault;
            faultPlace = start;
            return false;
        }

        private int byteAt(int i) {
            return i >= 0 && i < text && i < LONGEST ? bytes[i] : 0;
        }

        private static boolean isLetter(int c) {
            return c >= 'a' && c <= 'z';
        }

        private static boolean isDigit(int c) {
            return c >= '0' && c <= '9';
        }

        void next() {
            while (at < text && (byteAt(at) == 10 || byteAt(at) == 32)) {
                at++;
            }
            start = at;
            sign = NONE;
            if (at >= text) {
                sort = END;
            } else if (isLetter(byteAt(at))) {
                sort = WORD;
                passLetters();
                if (digitsJoin) {
                    passDigits();
                }
            } else if (isDigit(byteAt(at))) {
                sort = NUMBER;
                passDigits();
            } else {
                sort = SIGN;
                passSign();
            }
            end = at;
        }

        private void passLetters() {
            while (at < text && isLetter(byteAt(at))) {
                at++;
            }
        }

        private void passDigits() {
            while (at < text && isDigit(byteAt(at))) {
                at++;
            }
        }

        private void passSign() {
            sign = byteAt(at);
            at++;
            if ((sign == '<' || sign == '>') && (byteAt(at) == '=' || byteAt(at) == '>')) {
                sign += 256 * byteAt(at);
                at++;
            }
        }

        /** Which word of a list, parted by blanks, is in hand; NONE if it is none of them. */
        int wordIn(String list) {
            if (sort != WORD) {
                return NONE;
            }
            int which = 0;
            int place = start;
            boolean same = true;
            for (int i = 0; i <= list.length(); i++) {
                char letter = i < list.length() ? list.charAt(i) : ' ';
                if (letter != ' ') {
                    same = same && place < end && byteAt(place) == letter;
                    place++;
                } else if (same && place == end) {
                    return which;
                } else {
                    which++;
                    place = start;
                    same = true;
                }
            }
            return NONE;
        }

        boolean isInHandAt(int place, int length) {
            if (length != end - start) {
                return false;
            }
            for (int i = 0; i < length; i++) {
                if (byteAt(place + i) != byteAt(start + i)) {
                    return false;
                }
            }
            return true;
        }

        /** The number right behind a letter that begins the TOKEN in hand; NONE if it is not made so. */
        int numberBehind(char letter) {
            if (sort != WORD || end - start < 2 || byteAt(start) != letter || !isDigit(byteAt(start + 1))) {
                return NONE;
            }
            return numberFrom(start + 1);
        }

        /** The number whose digits go from a place to the end of the TOKEN in hand. */
        int numberFrom(int from) {
            int number = 0;
            for (int i = from; i < end; i++) {
                number = Math.min(number * 10 + byteAt(i) - '0', HUGE);
            }
            return number;
        }
    }

    /** LAYERS and NOTES as they were written: a NOTE never changes, so its number tells all. */
    private static final class Book {
        static final int OVER = 0;
        static final int CUTS = 1;
        static final int ONE = 2;
        static final int DATE = 3;
        static final int FINDS = 4;
        static final int STRIKE = 5;

        final int[] sort = new int[MOST_NOTES];
        final int[] a = new int[MOST_NOTES];
        final int[] b = new int[MOST_NOTES];
        final int[] c = new int[MOST_NOTES];
        int notes = 0;
        int layers = 0;

        boolean isFull() {
            return notes >= MOST_NOTES;
        }

        boolean hasLayer(int layer) {
            return layer >= 0 && layer < layers;
        }

        boolean hasFirst(int n) {
            return n >= 0 && n <= notes;
        }

        int write(int ofSort, int first, int second, int third) {
            if (isFull()) {
                return NONE;
            }
            sort[notes] = ofSort;
            a[notes] = first;
            b[notes] = second;
            c[notes] = third;
            notes++;
            return notes - 1;
        }
    }

    /** The book as KNOWN by its first n NOTES: which COUNT, BEDS, their order and their SPANS. */
    private static final class Known {
        private final Book book;
        private int notesSeen = NONE;
        private int layersSeen = NONE;
        private final boolean[] struck = new boolean[MOST_NOTES];
        /** Of each BED those that it is LATER than, as bits. */
        private final int[] later = new int[MOST_LAYERS];
        private final int[] ranks = new int[MOST_LAYERS];
        final int[] bedOf = new int[MOST_LAYERS];
        final int[] least = new int[MOST_LAYERS];
        final int[] greatest = new int[MOST_LAYERS];
        /** The QUARREL: 0, 1 or 2. */
        int clash = 0;

        Known(Book book) {
            this.book = book;
        }

        /** Works all out anew only if there is something new: the first n NOTES are always the same ones. */
        void look(int n) {
            if (n == notesSeen && book.layers == layersSeen) {
                return;
            }
            notesSeen = n;
            layersSeen = book.layers;
            findStruck();
            joinBeds();
            findLater();
            clash = hasRing() ? 1 : 0;
            if (clash == 0) {
                setRanks();
                setSpans();
            }
        }

        boolean counts(int note, int sort) {
            return note < notesSeen && !struck[note] && book.sort[note] == sort;
        }

        boolean areFindsIn(int note, int layers) {
            return counts(note, Book.FINDS) && (layers >> book.a[note] & 1) != 0;
        }

        /** From the last one on: whether a STRIKE COUNTS is then known before what it strikes is asked. */
        private void findStruck() {
            for (int i = 0; i < notesSeen; i++) {
                struck[i] = false;
            }
            for (int i = notesSeen - 1; i >= 0; i--) {
                if (counts(i, Book.STRIKE) && book.a[i] < i) {
                    struck[book.a[i]] = true;
                }
            }
        }

        private void joinBeds() {
            for (int i = 0; i < layersSeen; i++) {
                bedOf[i] = i;
            }
            for (int i = 0; i < notesSeen; i++) {
                if (counts(i, Book.ONE)) {
                    join(bedOf[book.a[i]], bedOf[book.b[i]]);
                }
            }
        }

        /** The lesser number stays, so that a BED always bears that of its least LAYER. */
        private void join(int one, int other) {
            int stays = Math.min(one, other);
            int goes = Math.max(one, other);
            for (int i = 0; i < layersSeen; i++) {
                if (bedOf[i] == goes) {
                    bedOf[i] = stays;
                }
            }
        }

        private void findLater() {
            for (int i = 0; i < layersSeen; i++) {
                later[i] = 0;
            }
            for (int i = 0; i < notesSeen; i++) {
                if (counts(i, Book.OVER) || counts(i, Book.CUTS)) {
                    later[bedOf[book.a[i]]] |= 1 << bedOf[book.b[i]];
                }
            }
            for (int over = 0; over < layersSeen; over++) {
                for (int i = 0; i < layersSeen; i++) {
                    if (isLater(i, over)) {
                        later[i] |= later[over];
                    }
                }
            }
        }

        boolean isLater(int bed, int other) {
            return (later[bed] >> other & 1) != 0;
        }

        private boolean hasRing() {
            for (int i = 0; i < layersSeen; i++) {
                if (isLater(i, i)) {
                    return true;
                }
            }
            return false;
        }

        /** A round for each LAYER is enough: no row of BEDS is longer. */
        private void setRanks() {
            for (int i = 0; i < layersSeen; i++) {
                ranks[i] = 0;
            }
            for (int round = 0; round < layersSeen; round++) {
                for (int i = 0; i < layersSeen; i++) {
                    raiseRank(i);
                }
            }
        }

        private void raiseRank(int bed) {
            for (int i = 0; i < layersSeen; i++) {
                if (isLater(bed, i)) {
                    ranks[bed] = Math.max(ranks[bed], ranks[i] + 1);
                }
            }
        }

        private void setSpans() {
            for (int i = 0; i < layersSeen; i++) {
                least[i] = 0;
                greatest[i] = LAST_YEAR;
            }
            for (int i = 0; i < notesSeen; i++) {
                if (counts(i, Book.DATE)) {
                    int bed = bedOf[book.a[i]];
                    least[bed] = Math.max(least[bed], book.b[i]);
                    greatest[bed] = Math.min(greatest[bed], book.c[i]);
                }
            }
            leadYears();
            for (int i = 0; i < layersSeen; i++) {
                if (least[i] > greatest[i]) {
                    clash = 2;
                }
            }
        }

        /** One pass is enough, since isLater knows whole rows of BEDS. */
        private void leadYears() {
            for (int i = 0; i < layersSeen; i++) {
                for (int j = 0; j < layersSeen; j++) {
                    if (isLater(i, j)) {
                        least[i] = Math.max(least[i], least[j]);
                        greatest[j] = Math.min(greatest[j], greatest[i]);
                    }
                }
            }
        }

        int rankOf(int bed) {
            return clash == 1 ? NONE : ranks[bed];
        }

        int layersOf(int bed) {
            int bits = 0;
            for (int i = 0; i < layersSeen; i++) {
                if (bedOf[i] == bed) {
                    bits |= 1 << i;
                }
            }
            return bits;
        }

        int bedsInAll() {
            int beds = 0;
            for (int i = 0; i < layersSeen; i++) {
                if (bedOf[i] == i) {
                    beds++;
                }
            }
            return beds;
        }

        /** The BED ahead; NONE in a RING, or if there is none. */
        int ahead(int bed) {
            int found = NONE;
            for (int i = 0; i < layersSeen && clash != 1; i++) {
                if (isLater(bed, i) && (found == NONE || ranks[i] > ranks[found])) {
                    found = i;
                }
            }
            return found;
        }
    }

    /** The HEAP, its COLUMNS, and what a BED HOLDS by them. */
    private static final class Ground {
        static final int THICKEST = 500;
        private static final int MOST_COLUMNS = 10;
        private static final int LEAST_SIDE = 2;
        private static final int GREATEST_SIDE = 12;

        private int w = 6;
        private int h = 6;
        private final int[] xs = new int[MOST_COLUMNS];
        private final int[] ys = new int[MOST_COLUMNS];
        private final int[] ofBed = new int[MOST_COLUMNS];
        /** How much more a BED would hold if a COLUMN were not there. */
        private final int[] without = new int[MOST_COLUMNS];
        final int[] thickness = new int[MOST_COLUMNS * MOST_LAYERS];
        int columns = 0;
        int whole = 0;
        int least = 0;
        int greatest = 0;

        private static boolean isSide(int cells) {
            return cells >= LEAST_SIDE && cells <= GREATEST_SIDE;
        }

        boolean lay(int width, int height) {
            if (!isSide(width) || !isSide(height)) {
                return false;
            }
            w = width;
            h = height;
            columns = 0;
            return true;
        }

        int draw(int x, int y) {
            if (x < 0 || x >= w || y < 0 || y >= h || columns >= MOST_COLUMNS) {
                return NONE;
            }
            for (int i = 0; i < columns; i++) {
                if (xs[i] == x && ys[i] == y) {
                    return NONE;
                }
            }
            xs[columns] = x;
            ys[columns] = y;
            for (int i = 0; i < MOST_LAYERS; i++) {
                thickness[columns * MOST_LAYERS + i] = 0;
            }
            columns++;
            return columns - 1;
        }

        void weigh(int layers) {
            whole = 0;
            for (int i = 0; i < columns; i++) {
                ofBed[i] = 0;
                without[i] = 0;
                for (int j = 0; j < MOST_LAYERS; j++) {
                    if ((layers >> j & 1) != 0) {
                        ofBed[i] += thickness[i * MOST_LAYERS + j];
                    }
                }
            }
            for (int x = 0; x < w; x++) {
                for (int y = 0; y < h; y++) {
                    weighCell(x, y);
                }
            }
            leaveOutEach();
        }

        /** The second COLUMN is the one that is nearest if the first were not there. */
        private void weighCell(int x, int y) {
            int first = NONE;
            int second = NONE;
            int toFirst = 0;
            int toSecond = 0;
            for (int i = 0; i < columns; i++) {
                int far = (xs[i] - x) * (xs[i] - x) + (ys[i] - y) * (ys[i] - y);
                if (first == NONE || far < toFirst) {
                    second = first;
                    toSecond = toFirst;
                    first = i;
                    toFirst = far;
                } else if (second == NONE || far < toSecond) {
                    second = i;
                    toSecond = far;
                }
            }
            if (first == NONE) {
                return;
            }
            whole += ofBed[first];
            if (second != NONE) {
                without[first] += ofBed[second] - ofBed[first];
            }
        }

        private void leaveOutEach() {
            for (int i = 0; i < columns; i++) {
                int left = whole + without[i];
                least = i == 0 ? left : Math.min(least, left);
                greatest = i == 0 ? left : Math.max(greatest, left);
            }
        }
    }

    /** KINDS of shells, the FINDS of each NOTE, and what a BED has of them. */
    private static final class Pantry {
        static final int SIEVES = 4;
        private static final int MOST_KINDS = 6;
        private static final int PARTS = 6;
        private static final int LEFT = 0;
        private static final int RIGHT = 1;
        private static final int WHOLE = 2;
        private static final int GNAWED = 5;
        private static final int A_NOTE = MOST_KINDS * SIEVES * PARTS;
        /** Each of 1 .. 16 divides it: what sieves lost is added up without a rest, and cut only then. */
        private static final long SHARES = 720720L;

        private final int[] meats = new int[MOST_KINDS];
        private final int[] valvesOf = new int[MOST_KINDS];
        private final int[] found = new int[MOST_NOTES * A_NOTE];
        private final long[] ofBed = new long[A_NOTE];
        final int[] keeps = new int[MOST_KINDS * SIEVES];
        final long[] leastNumber = new long[MOST_KINDS];
        final long[] righted = new long[MOST_KINDS];
        long food = 0;
        long lost = 0;
        int kinds = 0;

        boolean hasKind(int kind) {
            return kind >= 0 && kind < kinds;
        }

        int name(int meat, int valves) {
            if (meat < 0 || meat > 999 || valves < 1 || valves > 2 || kinds >= MOST_KINDS) {
                return NONE;
            }
            meats[kinds] = meat;
            valvesOf[kinds] = valves;
            for (int i = 0; i < SIEVES; i++) {
                keeps[kinds * SIEVES + i] = 16;
            }
            kinds++;
            return kinds - 1;
        }

        void clear(int note) {
            for (int i = 0; i < A_NOTE; i++) {
                found[note * A_NOTE + i] = 0;
            }
        }

        void add(int note, int kind, int sieve, int part, int number) {
            found[note * A_NOTE + (kind * SIEVES + sieve) * PARTS + part] += number;
        }

        /** Works out all that a BED of these LAYERS has, as KNOWN by all NOTES. */
        void gather(Known known, int layers) {
            for (int i = 0; i < A_NOTE; i++) {
                ofBed[i] = 0;
            }
            for (int note = 0; note < MOST_NOTES; note++) {
                if (known.areFindsIn(note, layers)) {
                    for (int i = 0; i < A_NOTE; i++) {
                        ofBed[i] += found[note * A_NOTE + i];
                    }
                }
            }
            food = 0;
            for (int kind = 0; kind < kinds; kind++) {
                putRight(kind);
                food += righted[kind] * meats[kind];
            }
            findLost();
        }

        private void putRight(int kind) {
            long number = 0;
            long shares = 0;
            for (int sieve = 0; sieve < SIEVES; sieve++) {
                long hinges = hinges(kind, sieve);
                int of16 = keeps[kind * SIEVES + sieve];
                number += hinges;
                if (of16 > 0) {
                    shares += hinges * 16 * (SHARES / of16);
                }
            }
            leastNumber[kind] = number;
            righted[kind] = shares / SHARES;
        }

        private long hinges(int kind, int sieve) {
            int row = (kind * SIEVES + sieve) * PARTS;
            long left = ofBed[row + LEFT];
            long right = ofBed[row + RIGHT];
            long sides = valvesOf[kind] == 1 ? left + right : Math.max(left, right);
            return ofBed[row + WHOLE] + sides;
        }

        private void findLost() {
            long gnawed = 0;
            long all = 0;
            for (int i = 0; i < A_NOTE; i++) {
                all += ofBed[i];
                if (i % PARTS == GNAWED) {
                    gnawed += ofBed[i];
                }
            }
            lost = all > 0 ? gnawed * 1000 / all : 0;
        }

        long lasts(int aDay, int of100) {
            long by = (long) aDay * of100;
            return by > 0 ? food * 100 / by : 0;
        }
    }

    /** Reads a text of FINDS into the row of the NOTE that it will be. */
    private static final class FindsReader {
        private static final String PARTS = "left right whole broken burnt gnawed";
        private static final int GREATEST = 999;

        private final Tape tape;
        private final Pantry pantry;
        private int note = 0;
        private int kind = 0;
        private int sieve = 0;
        private int toldParts = 0;

        FindsReader(Tape tape, Pantry pantry) {
            this.tape = tape;
            this.pantry = pantry;
        }

        boolean read(int n, int ofNote) {
            note = ofNote;
            pantry.clear(note);
            tape.open(n, true);
            for (int i = 0; i < Tape.LONGEST; i++) {
                if (!readFind()) {
                    return false;
                }
                if (tape.sort == Tape.END) {
                    return true;
                }
                if (!passSign(';')) {
                    return false;
                }
                if (tape.sort == Tape.END) {
                    return true;
                }
            }
            return tape.fail(Tape.CANT_STAND);
        }

        private boolean passSign(char sign) {
            if (tape.sign != sign) {
                return tape.fail(Tape.CANT_STAND);
            }
            tape.next();
            return true;
        }

        private boolean readFind() {
            if (!readKind() || !readSieve() || !passSign(':')) {
                return false;
            }
            toldParts = 0;
            for (int i = 0; i < Tape.LONGEST; i++) {
                if (!readPart()) {
                    return false;
                }
                if (tape.sign != ',') {
                    return true;
                }
                tape.next();
            }
            return tape.fail(Tape.CANT_STAND);
        }

        private boolean readKind() {
            kind = tape.numberBehind('k');
            if (kind == NONE) {
                return tape.fail(Tape.CANT_STAND);
            }
            if (!pantry.hasKind(kind)) {
                return tape.fail(Tape.TOO_MUCH);
            }
            tape.next();
            return true;
        }

        private boolean readSieve() {
            sieve = tape.numberBehind('s');
            if (sieve == NONE) {
                return tape.fail(Tape.CANT_STAND);
            }
            if (sieve >= Pantry.SIEVES) {
                return tape.fail(Tape.TOO_MUCH);
            }
            tape.next();
            return true;
        }

        private boolean readPart() {
            int part = tape.wordIn(PARTS);
            if (part == NONE) {
                return tape.fail(Tape.CANT_STAND);
            }
            if ((toldParts >> part & 1) != 0) {
                return tape.fail(Tape.TOLD_ALREADY);
            }
            toldParts |= 1 << part;
            tape.next();
            if (tape.sort != Tape.NUMBER) {
                return tape.fail(Tape.CANT_STAND);
            }
            int number = tape.numberFrom(tape.start);
            if (number > GREATEST) {
                return tape.fail(Tape.TOO_MUCH);
            }
            pantry.add(note, kind, sieve, part, number);
            tape.next();
            return true;
        }
    }

    /** READERS, what they told of each LAYER, and PUT RIGHT for a BED. */
    private static final class Readers {
        static final int SEASONS = 4;
        static final int MOST_READINGS = 40;
        private static final int READERS = 3;

        /** Of a READER and a SEASON how many of 16 are told as each SEASON. */
        private final int[] rows = new int[READERS * SEASONS * SEASONS];
        private final int[] told = new int[MOST_LAYERS * READERS * SEASONS];
        private final int[] ofBed = new int[SEASONS];
        private final int[] gaps = new int[SEASONS];
        private final int[] steps = new int[SEASONS];
        final int[] died = new int[SEASONS];
        int miss = NONE;

        Readers() {
            for (int reader = 0; reader < READERS; reader++) {
                for (int i = 0; i < SEASONS; i++) {
                    rows[(reader * SEASONS + i) * SEASONS + i] = 16;
                }
            }
        }

        static boolean has(int reader) {
            return reader >= 0 && reader < READERS;
        }

        static boolean areWithin(int most, int a, int b, int c, int d) {
            return a >= 0 && a <= most && b >= 0 && b <= most && c >= 0 && c <= most && d >= 0 && d <= most;
        }

        void setRow(int reader, int i, int a, int b, int c, int d) {
            int row = (reader * SEASONS + i) * SEASONS;
            rows[row] = a;
            rows[row + 1] = b;
            rows[row + 2] = c;
            rows[row + 3] = d;
        }

        void tell(int layer, int reader, int a, int b, int c, int d) {
            int row = (layer * READERS + reader) * SEASONS;
            told[row] += a;
            told[row + 1] += b;
            told[row + 2] += c;
            told[row + 3] += d;
        }

        int sum(int layers, int reader) {
            int all = 0;
            for (int j = 0; j < SEASONS; j++) {
                ofBed[j] = 0;
                for (int i = 0; i < MOST_LAYERS; i++) {
                    if ((layers >> i & 1) != 0) {
                        ofBed[j] += told[(i * READERS + reader) * SEASONS + j];
                    }
                }
                all += ofBed[j];
            }
            return all;
        }

        /** Sets died and miss; false if there are too many READINGS. */
        boolean putRight(int layers, int reader) {
            int all = sum(layers, reader);
            if (all > MOST_READINGS) {
                return false;
            }
            miss = NONE;
            for (int first = 0; first <= all; first++) {
                for (int second = 0; first + second <= all; second++) {
                    tryPair(reader, first, second, all - first - second);
                }
            }
            return true;
        }

        /**
         * With the first two numbers given, the MISS is a square function of the third one, for the fourth is what
         * remains: the whole numbers next to its lowest point are enough to try.
         */
        private void tryPair(int reader, int first, int second, int rest) {
            int row = reader * SEASONS * SEASONS;
            int slope = 0;
            int bend = 0;
            for (int j = 0; j < SEASONS; j++) {
                int ofFourth = rows[row + 3 * SEASONS + j];
                steps[j] = rows[row + 2 * SEASONS + j] - ofFourth;
                gaps[j] = 16 * ofBed[j] - first * rows[row + j] - second * rows[row + SEASONS + j] - rest * ofFourth;
                slope += gaps[j] * steps[j];
                bend += steps[j] * steps[j];
            }
            int third = bend > 0 && slope > 0 ? Math.min(slope / bend, rest) : 0;
            int found = missAt(third);
            if (third < rest && missAt(third + 1) < found) {
                third++;
                found = missAt(third);
            }
            if (miss == NONE || found < miss) {
                miss = found;
                died[0] = first;
                died[1] = second;
                died[2] = third;
                died[3] = rest - third;
            }
        }

        private int missAt(int third) {
            int sum = 0;
            for (int j = 0; j < SEASONS; j++) {
                int gap = gaps[j] - third * steps[j];
                sum += gap * gap;
            }
            return sum;
        }

        /** STAY, or NONE if a READER has too many READINGS. */
        int seasonsMet(int layers) {
            int bits = 0;
            for (int reader = 0; reader < READERS; reader++) {
                if (!putRight(layers, reader)) {
                    return NONE;
                }
                for (int i = 0; i < SEASONS; i++) {
                    if (died[i] > 0) {
                        bits |= 1 << i;
                    }
                }
            }
            return bits;
        }
    }

    /** Shells MEASURED, and the middle ones of a BED. */
    private static final class Sizes {
        private static final int MOST = 200;
        private static final int SORTS = 3;
        private static final int WIDEST = 99;
        private static final int MOST_RINGS = 30;

        private final int[] layerOf = new int[MOST];
        private final int[] marks = new int[MOST * SORTS];
        private final int[] tally = new int[WIDEST + 1];
        int measured = 0;

        int add(int layer, int size, int rings, int width) {
            if (size < 0 || size > WIDEST || rings < 0 || rings > MOST_RINGS || width < 0 || width > WIDEST) {
                return NONE;
            }
            if (measured >= MOST) {
                return NONE;
            }
            layerOf[measured] = layer;
            marks[measured * SORTS] = size;
            marks[measured * SORTS + 1] = rings;
            marks[measured * SORTS + 2] = width;
            measured++;
            return measured;
        }

        int measuredIn(int layers) {
            int number = 0;
            for (int i = 0; i < measured; i++) {
                number += layers >> layerOf[i] & 1;
            }
            return number;
        }

        /** Counts how often each mark stands, which sorts them without a row for each BED. */
        int middleOf(int layers, int what) {
            for (int i = 0; i <= WIDEST; i++) {
                tally[i] = 0;
            }
            for (int i = 0; i < measured; i++) {
                tally[marks[i * SORTS + what]] += layers >> layerOf[i] & 1;
            }
            int ahead = (measuredIn(layers) + 1) / 2;
            if (ahead == 0) {
                return NONE;
            }
            for (int i = 0; i <= WIDEST; i++) {
                ahead -= tally[i];
                if (ahead <= 0) {
                    return i;
                }
            }
            return NONE;
        }
    }

    /** RULES that were read: each E as a row of steps, what is worked on ahead of what is done with it. */
    private static final class Rules {
        static final int MOST_CAUSES = 6;
        static final int MOST_KNOTS = 96;

        /** The tens of what joins tell how tightly it binds; below ten stands what is joined. */
        static final int OPEN = 0;
        static final int GIVEN = 1;
        static final int OWN = 2;
        static final int AHEAD = 3;
        static final int OR = 10;
        static final int AND = 20;
        static final int NOT = 30;
        static final int LESS = 40;
        static final int AT_MOST = 41;
        static final int SAME = 42;
        static final int UNLIKE = 43;
        static final int AT_LEAST = 44;
        static final int MORE = 45;
        static final int PLUS = 50;
        static final int MINUS = 51;
        static final int TIMES = 60;
        static final int BY = 61;

        final int[] steps = new int[MOST_KNOTS];
        final int[] worths = new int[MOST_KNOTS];
        /** Where the steps of each CAUSE begin; behind the last one where they end. */
        final int[] begins = new int[MOST_CAUSES + 1];
        int length = 0;
        int causes = 0;
        int knots = 0;

        void clear() {
            length = 0;
            causes = 0;
            knots = 0;
        }

        void add(int step, int worth) {
            if (length < MOST_KNOTS) {
                steps[length] = step;
                worths[length] = worth;
                length++;
            }
        }

        void endCause() {
            if (causes < MOST_CAUSES) {
                causes++;
                begins[causes] = length;
            }
        }
    }

    /** Reads a text of RULES beside those that stand: a text with a FAULT leaves these as they are. */
    private static final class RulesReader {
        private static final String CAUSE = "cause";
        private static final String THEN = "then";
        private static final String NOT = "not";
        private static final String OR_AND = "or and";
        private static final String NAMES = "size age growth days season rank lost holds number food";
        private static final String OTHER_WORDS = "cause then not or and";
        private static final int LONGEST_TITLE = 8;
        private static final int MOST_OPEN = 8;
        private static final int GREATEST = 99999;

        private final Tape tape;
        private final int[] titleStarts = new int[Rules.MOST_CAUSES];
        private final int[] titleLengths = new int[Rules.MOST_CAUSES];
        /** What joins and still waits for its right side, and each '(' that is open. */
        private final int[] waiting = new int[Rules.MOST_KNOTS + MOST_OPEN];
        private int waits = 0;
        private int open = 0;
        private boolean wantsPart = true;
        private Rules draft = new Rules();
        Rules standing = new Rules();

        RulesReader(Tape tape) {
            this.tape = tape;
        }

        boolean read(int n) {
            tape.open(n, false);
            draft.clear();
            for (int i = 0; i < Tape.LONGEST && tape.sort != Tape.END; i++) {
                if (!readCause()) {
                    return false;
                }
            }
            Rules read = draft;
            draft = standing;
            standing = read;
            return true;
        }

        private boolean readCause() {
            if (tape.wordIn(CAUSE) == NONE) {
                return tape.fail(Tape.CANT_STAND);
            }
            if (draft.causes >= Rules.MOST_CAUSES) {
                return tape.fail(Tape.TOO_MUCH);
            }
            tape.next();
            if (!readTitle()) {
                return false;
            }
            if (tape.sign != ':') {
                return tape.fail(Tape.CANT_STAND);
            }
            tape.next();
            if (!readBody()) {
                return false;
            }
            draft.endCause();
            return true;
        }

        private boolean readTitle() {
            int length = tape.end - tape.start;
            if (tape.sort != Tape.WORD || length > LONGEST_TITLE) {
                return tape.fail(Tape.CANT_STAND);
            }
            if (tape.wordIn(NAMES) != NONE || tape.wordIn(OTHER_WORDS) != NONE) {
                return tape.fail(Tape.CANT_STAND);
            }
            for (int i = 0; i < draft.causes; i++) {
                if (tape.isInHandAt(titleStarts[i], titleLengths[i])) {
                    return tape.fail(Tape.TOLD_ALREADY);
                }
            }
            titleStarts[draft.causes] = tape.start;
            titleLengths[draft.causes] = length;
            tape.next();
            return true;
        }

        /** Takes E and the ';' behind it. Each turn takes a TOKEN, and the end of the text can't stand in E. */
        private boolean readBody() {
            waits = 0;
            open = 0;
            wantsPart = true;
            for (int i = 0; i <= Tape.LONGEST; i++) {
                if (!wantsPart && open == 0 && tape.sign == ';') {
                    settle(tightness(Rules.OR));
                    tape.next();
                    return true;
                }
                if (!(wantsPart ? takePart() : takeJoin())) {
                    return false;
                }
                tape.next();
            }
            return tape.fail(Tape.CANT_STAND);
        }

        private boolean takePart() {
            if (tape.sign == '(') {
                return takeOpen();
            }
            if (tape.sort == Tape.NUMBER) {
                return takeNumber();
            }
            if (tape.wordIn(NOT) != NONE) {
                return takeNot();
            }
            if (tape.wordIn(THEN) == NONE) {
                return takeName(Rules.OWN);
            }
            if (!tieKnot()) {
                return false;
            }
            tape.next();
            return takeName(Rules.AHEAD);
        }

        private boolean tieKnot() {
            if (draft.knots >= Rules.MOST_KNOTS) {
                return tape.fail(Tape.TOO_MUCH);
            }
            draft.knots++;
            return true;
        }

        private boolean takeOpen() {
            if (open >= MOST_OPEN) {
                return tape.fail(Tape.TOO_MUCH);
            }
            open++;
            await(Rules.OPEN);
            return true;
        }

        private boolean takeNumber() {
            int number = tape.numberFrom(tape.start);
            if (number > GREATEST) {
                return tape.fail(Tape.TOO_MUCH);
            }
            if (!tieKnot()) {
                return false;
            }
            draft.add(Rules.GIVEN, number);
            wantsPart = false;
            return true;
        }

        private boolean takeName(int whose) {
            int name = tape.wordIn(NAMES);
            if (name == NONE) {
                return tape.fail(Tape.CANT_STAND);
            }
            if (!tieKnot()) {
                return false;
            }
            draft.add(whose, name);
            wantsPart = false;
            return true;
        }

        /** A not begins a B: it can't stand behind what binds more tightly than another not. */
        private boolean takeNot() {
            if (tightness(lastWaiting()) > tightness(Rules.NOT)) {
                return tape.fail(Tape.CANT_STAND);
            }
            if (!tieKnot()) {
                return false;
            }
            await(Rules.NOT);
            return true;
        }

        private boolean takeJoin() {
            if (tape.sign == ')') {
                return takeClose();
            }
            int join = joinInHand();
            if (join == NONE) {
                return tape.fail(Tape.CANT_STAND);
            }
            settle(tightness(join) + 1);
            boolean compares = tightness(join) == tightness(Rules.LESS);
            if (compares && tightness(lastWaiting()) == tightness(join)) {
                return tape.fail(Tape.CANT_STAND);
            }
            if (!tieKnot()) {
                return false;
            }
            settle(tightness(join));
            await(join);
            wantsPart = true;
            return true;
        }

        private boolean takeClose() {
            if (open == 0) {
                return tape.fail(Tape.CANT_STAND);
            }
            settle(tightness(Rules.OR));
            waits = Math.max(waits - 1, 0);
            open--;
            return true;
        }

        private int joinInHand() {
            int word = tape.wordIn(OR_AND);
            if (word != NONE) {
                return word == 0 ? Rules.OR : Rules.AND;
            }
            switch (tape.sign) {
                case '<':
                    return Rules.LESS;
                case '<' + 256 * '=':
                    return Rules.AT_MOST;
                case '=':
                    return Rules.SAME;
                case '<' + 256 * '>':
                    return Rules.UNLIKE;
                case '>' + 256 * '=':
                    return Rules.AT_LEAST;
                case '>':
                    return Rules.MORE;
                case '+':
                    return Rules.PLUS;
                case '-':
                    return Rules.MINUS;
                case '*':
                    return Rules.TIMES;
                case '/':
                    return Rules.BY;
                default:
                    return NONE;
            }
        }

        private static int tightness(int join) {
            return join / 10;
        }

        private int lastWaiting() {
            return waits > 0 && waits <= waiting.length ? waiting[waits - 1] : Rules.OPEN;
        }

        private void await(int join) {
            if (waits < waiting.length) {
                waiting[waits] = join;
                waits++;
            }
        }

        /** What waits and binds at least so tightly has got its right side. */
        private void settle(int loosest) {
            while (waits > 0 && tightness(lastWaiting()) >= loosest) {
                draft.add(lastWaiting(), 0);
                waits--;
            }
        }
    }

    /** VALUES of a BED and of the one ahead of it, each worked out at most once, and what an E makes of them. */
    private static final class Judge {
        private static final int SIZE = 0;
        private static final int AGE = 1;
        private static final int GROWTH = 2;
        private static final int DAYS = 3;
        private static final int SEASON = 4;
        private static final int RANK = 5;
        private static final int LOST = 6;
        private static final int HOLDS = 7;
        private static final int NUMBER = 8;
        private static final int FOOD = 9;
        private static final int NAMES = 10;
        private static final int DAY_OF_PEOPLE = 20000;
        private static final long GREATEST = 1000000000000000L;

        private final Known known;
        private final Ground ground;
        private final Pantry pantry;
        private final Readers readers;
        private final Sizes sizes;
        private final long[] values = new long[2 * NAMES];
        private final boolean[] isWorked = new boolean[2 * NAMES];
        private final long[] stack = new long[Rules.MOST_KNOTS];
        private int own = NONE;
        private int ahead = NONE;

        Judge(Known known, Ground ground, Pantry pantry, Readers readers, Sizes sizes) {
            this.known = known;
            this.ground = ground;
            this.pantry = pantry;
            this.readers = readers;
            this.sizes = sizes;
        }

        /** Turns to a BED as KNOWN by all NOTES, which known has looked at. */
        void turnTo(int bed) {
            own = bed;
            ahead = known.ahead(bed);
            for (int i = 0; i < 2 * NAMES; i++) {
                isWorked[i] = false;
            }
        }

        long worthOf(Rules rules, int k) {
            int held = 0;
            for (int i = rules.begins[k]; i < rules.begins[k + 1]; i++) {
                int step = rules.steps[i];
                long result;
                if (step < Rules.OR) {
                    result = part(step, rules.worths[i]);
                } else if (step == Rules.NOT && held >= 1) {
                    held -= 1;
                    result = stack[held] == 0 ? 1 : 0;
                } else if (held >= 2) {
                    held -= 2;
                    result = joined(step, stack[held], stack[held + 1]);
                } else {
                    return NO_VALUE;
                }
                if (result == NO_VALUE || held >= Rules.MOST_KNOTS) {
                    return NO_VALUE;
                }
                stack[held] = result;
                held++;
            }
            return held == 1 ? stack[0] : NO_VALUE;
        }

        private long part(int step, int worth) {
            if (step == Rules.GIVEN) {
                return worth;
            }
            int bed = step == Rules.OWN ? own : ahead;
            if (bed == NONE || worth < 0 || worth >= NAMES) {
                return NO_VALUE;
            }
            int place = step == Rules.OWN ? worth : NAMES + worth;
            if (!isWorked[place]) {
                long value = valueOf(worth, bed);
                values[place] = value == NONE ? NO_VALUE : value;
                isWorked[place] = true;
            }
            return values[place];
        }

        /** No VALUE is below 0, so that NONE can say that there is none. */
        private long valueOf(int name, int bed) {
            int layers = known.layersOf(bed);
            switch (name) {
                case SIZE:
                case AGE:
                case GROWTH:
                    return sizes.middleOf(layers, name);
                case SEASON:
                    int met = readers.seasonsMet(layers);
                    return met == NONE ? NONE : Integer.bitCount(met);
                case RANK:
                    return known.rankOf(bed);
                case HOLDS:
                    ground.weigh(layers);
                    return ground.columns == 0 ? NONE : ground.whole;
                default:
                    pantry.gather(known, layers);
                    return ofShells(name);
            }
        }

        private long ofShells(int name) {
            switch (name) {
                case DAYS:
                    return pantry.lasts(DAY_OF_PEOPLE, 100);
                case LOST:
                    return pantry.lost;
                case NUMBER:
                    return pantry.hasKind(0) ? pantry.leastNumber[0] : NONE;
                case FOOD:
                    return pantry.food;
                default:
                    return NONE;
            }
        }

        private static long joined(int join, long a, long b) {
            switch (join) {
                case Rules.PLUS:
                    return within(a + b);
                case Rules.MINUS:
                    return within(a - b);
                case Rules.TIMES:
                    return times(a, b);
                case Rules.BY:
                    return b == 0 ? NO_VALUE : a / b;
                default:
                    return holdsTrue(join, a, b) ? 1 : 0;
            }
        }

        private static long within(long value) {
            return value > GREATEST || value < -GREATEST ? NO_VALUE : value;
        }

        /** Asks by a division first, for the product itself may be too great for a long. */
        private static long times(long a, long b) {
            if (b != 0 && Math.abs(a) > GREATEST / Math.abs(b)) {
                return NO_VALUE;
            }
            return a * b;
        }

        private static boolean holdsTrue(int join, long a, long b) {
            switch (join) {
                case Rules.OR:
                    return a != 0 || b != 0;
                case Rules.AND:
                    return a != 0 && b != 0;
                case Rules.LESS:
                    return a < b;
                case Rules.AT_MOST:
                    return a <= b;
                case Rules.SAME:
                    return a == b;
                case Rules.UNLIKE:
                    return a != b;
                case Rules.AT_LEAST:
                    return a >= b;
                default:
                    return a > b;
            }
        }
    }
}
