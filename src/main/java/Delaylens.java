import java.util.ArrayList;
import java.util.Arrays;

/**
 * Light that came by several roads: masses bend rays, sources have images that flicker one behind
 * the other, frames are taken of them, and two houses book the growth of the world from delays.
 */
public final class Delaylens {
    /** There is none. */
    public static final int NONE = -1;
    /** Shapes. */
    public static final int HALO = 0, STAR = 1, SHEAR = 2;

    private static final int EDGE = 10;
    private static final int CELLS = (2 * EDGE + 1) * (2 * EDGE + 1);
    private static final int MOST_MASSES = 6;
    private static final int MOST_STRENGTH = 8;
    private static final int MOST_SOURCES = 5;
    private static final int MOST_LIGHT = 100;
    private static final int MOST_FLARES = 40;
    private static final int MOST_MORE = 100;
    private static final int MOST_STARS = 20;
    private static final int MOST_WIDTH = 50;
    private static final int MOST_HEIGHT = 1000;
    private static final int MOST_FRAMES = 60;
    private static final int FRAMED_IMAGES = 6;
    private static final int ROUND_OF_SEASONS = 100;
    private static final int MOST_CLOUDY_DAYS = 50;
    private static final int MOST_DAYS_TO_PASS = 100;
    private static final int LAST_DAY = 2000;
    private static final int LEAST_GROWTH = 40;
    private static final int MOST_GROWTH = 100;
    private static final int FIRST_GROWTH = 70;
    private static final int WAY_TO_DAYS = 20;
    private static final int FULL_BRIGHTNESS = 24;
    private static final int LONGEST_DELAY = 150;
    private static final int LEAST_PAIRS = 3;
    private static final int HOUSES = 2;
    private static final int MINDS = 5;
    private static final int MINDS_TO_OPEN = 3;

    private final Rays rays = new Rays();
    private final ArrayList<Source> sources = new ArrayList<>();
    private int flareCount = 0;
    private int starCount = 0;
    private final Album album = new Album();
    private final Books books = new Books();
    private int today = 0;
    private int seasonStart = 0;
    private int seasonEnd = ROUND_OF_SEASONS - 1;
    private int firstClearDay = 0;
    private int growthOfWorld = FIRST_GROWTH;

    public Delaylens() {
    }

    // ---- what is told

    public int mass(int shape, int column, int row, int strength)
            throws IllegalArgumentException, IllegalStateException {
        if (!isWithin(shape, HALO, SHEAR) || !isInField(column, row) || !isWithin(strength, 1, MOST_STRENGTH)) {
            throw new IllegalArgumentException("no such shape, cell or strength");
        }
        if (rays.isFull()) {
            throw new IllegalStateException("there are 6 masses");
        }
        int number = rays.add(new Mass(shape, column, row, strength));
        beginAnew();
        return number;
    }

    public int two(int mass, int column, int row)
            throws IndexOutOfBoundsException, IllegalArgumentException, IllegalStateException {
        Mass told = rays.massAt(mass);
        if (told == null) {
            throw new IndexOutOfBoundsException("no such mass");
        }
        if (!isInField(column, row)) {
            throw new IllegalArgumentException("no cell of the field");
        }
        if (told.isWhole() || rays.isFull()) {
            throw new IllegalStateException("the mass cannot be two");
        }
        int number = rays.add(told.split(column, row));
        beginAnew();
        return number;
    }

    public int source(int column, int row, int light) throws IllegalArgumentException, IllegalStateException {
        if (!isInField(column, row) || !isWithin(light, 1, MOST_LIGHT)) {
            throw new IllegalArgumentException("no such cell or light");
        }
        if (sources.size() >= MOST_SOURCES || isTaken(column, row)) {
            throw new IllegalStateException("no room for a source");
        }
        Source told = new Source(column, row, light);
        told.findImages(rays);
        sources.add(told);
        return sources.size() - 1;
    }

    public int flare(int source, int more)
            throws IndexOutOfBoundsException, IllegalArgumentException, IllegalStateException {
        Source told = sourceAt(source);
        if (told == null) {
            throw new IndexOutOfBoundsException("no such source");
        }
        if (!isWithin(more, -MOST_MORE, MOST_MORE)) {
            throw new IllegalArgumentException("too much more or less light");
        }
        if (flareCount >= MOST_FLARES) {
            throw new IllegalStateException("there were 40 flares");
        }
        flareCount++;
        told.addFlare(new Flare(today, more));
        return told.lightOn(today);
    }

    public void cross(int source, int rank, int width, int height)
            throws IndexOutOfBoundsException, IllegalArgumentException, IllegalStateException {
        Source told = sourceAt(source);
        if (told == null || !told.hasImage(rank)) {
            throw new IndexOutOfBoundsException("no such source or image");
        }
        if (!isWithin(width, 1, MOST_WIDTH) || !isWithin(height, 1, MOST_HEIGHT)) {
            throw new IllegalArgumentException("no such width or height");
        }
        if (starCount >= MOST_STARS) {
            throw new IllegalStateException("there are 20 stars");
        }
        starCount++;
        told.addStar(new Star(rank, today, width, height));
    }

    public void season(int from, int to) throws IllegalArgumentException {
        if (!isWithin(from, 0, ROUND_OF_SEASONS - 1) || !isWithin(to, from, ROUND_OF_SEASONS - 1)) {
            throw new IllegalArgumentException("no such season");
        }
        seasonStart = from;
        seasonEnd = to;
    }

    public int cloud(int days) throws IllegalArgumentException {
        if (!isWithin(days, 0, MOST_CLOUDY_DAYS)) {
            throw new IllegalArgumentException("no such number of days");
        }
        firstClearDay = today + days;
        return firstClearDay;
    }

    public int world(int growth) throws IllegalArgumentException, IllegalStateException {
        if (!isWithin(growth, LEAST_GROWTH, MOST_GROWTH)) {
            throw new IllegalArgumentException("no such growth");
        }
        if (album.count() > 0) {
            throw new IllegalStateException("there are frames");
        }
        int before = growthOfWorld;
        growthOfWorld = growth;
        return before;
    }

    public int frame() throws IllegalStateException {
        if (!isSeason() || today < firstClearDay || album.hasFrameOf(today) || album.isFull()) {
            throw new IllegalStateException("no frame can be taken");
        }
        return album.add(framedSky());
    }

    public int pass(int days) throws IllegalArgumentException, IllegalStateException {
        if (!isWithin(days, 1, MOST_DAYS_TO_PASS)) {
            throw new IllegalArgumentException("no such number of days");
        }
        if (today + days > LAST_DAY) {
            throw new IllegalStateException("days end at 2000");
        }
        today += days;
        return today;
    }

    public int book(int house, int source, int rank, int other)
            throws IndexOutOfBoundsException, IllegalArgumentException {
        Source told = sourceAt(source);
        if (!books.hasHouse(house) || !areImages(told, rank, other)) {
            throw new IndexOutOfBoundsException("no such house, source or image");
        }
        if (rank == other) {
            throw new IllegalArgumentException("both images are the same");
        }
        int days = measuredDays(source, rank, other);
        int longer = wayOf(told, other) - wayOf(told, rank);
        int growth = days <= 0 || longer <= 0 ? NONE : longer * WAY_TO_DAYS / days;
        return books.add(house, growth, rays.count());
    }

    public boolean vote(int mind, boolean isFor) throws IndexOutOfBoundsException {
        if (!books.hasMind(mind)) {
            throw new IndexOutOfBoundsException("no such mind");
        }
        books.setMind(mind, isFor);
        return books.areOpen();
    }

    // ---- what is asked

    public int day() {
        return today;
    }

    public int from(int column, int row, boolean isRow) throws IllegalArgumentException {
        if (!isInField(column, row)) {
            throw new IllegalArgumentException("no cell of the field");
        }
        int place = Rays.placeOf(column, row);
        return isRow ? rays.comesFromRow(place) : rays.comesFromColumn(place);
    }

    public int images(int source) throws IndexOutOfBoundsException {
        Source told = sourceAt(source);
        if (told == null) {
            throw new IndexOutOfBoundsException("no such source");
        }
        return told.imageCount();
    }

    public int imagesAnew(int source) throws IndexOutOfBoundsException {
        Source told = sourceAt(source);
        if (told == null) {
            throw new IndexOutOfBoundsException("no such source");
        }
        return rays.shotFrom(told.column, told.row);
    }

    public int imageOf(int source, int rank, int what)
            throws IndexOutOfBoundsException, IllegalArgumentException {
        Source told = sourceAt(source);
        if (told == null || !told.hasImage(rank)) {
            throw new IndexOutOfBoundsException("no such source or image");
        }
        switch (what) {
            case 0: return Rays.columnOf(told.placeAt(rank));
            case 1: return Rays.rowOf(told.placeAt(rank));
            case 2: return brightnessOf(told, rank);
            case 3: return wayOf(told, rank);
            case 4: return lateness(told, rank);
            default: throw new IllegalArgumentException("no such thing is told of an image");
        }
    }

    public int hits(int column, int row) throws IllegalArgumentException {
        if (!isInField(column, row)) {
            throw new IllegalArgumentException("no cell of the field");
        }
        return rays.countFrom(column, row);
    }

    public int lost() {
        return rays.countFromBeyond();
    }

    public int delay(int source, int rank, int other) throws IndexOutOfBoundsException {
        Source told = sourceAt(source);
        if (!areImages(told, rank, other)) {
            throw new IndexOutOfBoundsException("no such source or image");
        }
        return lateness(told, other) - lateness(told, rank);
    }

    public int light(int source, int rank) throws IndexOutOfBoundsException {
        Source told = sourceAt(source);
        if (told == null || !told.hasImage(rank)) {
            throw new IndexOutOfBoundsException("no such source or image");
        }
        return lightToday(told, rank);
    }

    public int frames() {
        return album.count();
    }

    public int seen(int frame, int source, int rank)
            throws IndexOutOfBoundsException, IllegalArgumentException {
        Frame taken = album.frameAt(frame);
        if (taken == null || sourceAt(source) == null) {
            throw new IndexOutOfBoundsException("no such frame or source");
        }
        if (!isWithin(rank, 0, FRAMED_IMAGES - 1)) {
            throw new IllegalArgumentException("a frame has 6 images of a source");
        }
        return taken.lightAt(source, rank);
    }

    public int measured(int source, int rank, int other)
            throws IndexOutOfBoundsException, IllegalArgumentException {
        if (!areImages(sourceAt(source), rank, other)) {
            throw new IndexOutOfBoundsException("no such source or image");
        }
        if (rank == other || rank >= FRAMED_IMAGES || other >= FRAMED_IMAGES) {
            throw new IllegalArgumentException("both images are the same, or one is not in frames");
        }
        return measuredDays(source, rank, other);
    }

    public int booked(int house) throws IndexOutOfBoundsException, IllegalStateException {
        if (!books.hasHouse(house)) {
            throw new IndexOutOfBoundsException("no such house");
        }
        if (!books.areOpen()) {
            throw new IllegalStateException("the books are blind");
        }
        return books.growthBy(house);
    }

    public boolean isFresh(int house) throws IndexOutOfBoundsException, IllegalStateException {
        if (!books.hasHouse(house)) {
            throw new IndexOutOfBoundsException("no such house");
        }
        if (!books.hasBooking(house)) {
            throw new IllegalStateException("the house booked nothing");
        }
        // Masses are only ever added (a mass that is two adds one), so their count tells whether they are the same.
        return books.massesThen(house) == rays.count();
    }

    public int dispute() throws IllegalStateException {
        if (!books.areOpen()) {
            throw new IllegalStateException("the books are blind");
        }
        int one = books.growthBy(0);
        int other = books.growthBy(1);
        return one == NONE || other == NONE ? NONE : Math.abs(one - other);
    }

    private static boolean isWithin(int number, int least, int most) {
        return number >= least && number <= most;
    }

    private static boolean isInField(int column, int row) {
        return isWithin(column, -EDGE, EDGE) && isWithin(row, -EDGE, EDGE);
    }

    private Source sourceAt(int number) {
        return number >= 0 && number < sources.size() ? sources.get(number) : null;
    }

    private boolean isTaken(int column, int row) {
        for (int i = 0; i < sources.size(); i++) {
            if (sources.get(i).column == column && sources.get(i).row == row) {
                return true;
            }
        }
        return false;
    }

    private static boolean areImages(Source told, int rank, int other) {
        return told != null && told.hasImage(rank) && told.hasImage(other);
    }

    /** The masses are others now: images are elsewhere, and frames and stars worthless. */
    private void beginAnew() {
        album.clear();
        starCount = 0;
        for (int i = 0; i < sources.size(); i++) {
            sources.get(i).clearStars();
            sources.get(i).findImages(rays);
        }
    }

    private boolean isSeason() {
        return isWithin(today % ROUND_OF_SEASONS, seasonStart, seasonEnd);
    }

    private int wayOf(Source told, int rank) {
        return rays.wayAt(told.placeAt(rank));
    }

    private int brightnessOf(Source told, int rank) {
        return rays.brightnessAt(told.placeAt(rank));
    }

    private int lateness(Source told, int rank) {
        if (growthOfWorld < 1) {
            return 0;
        }
        return (wayOf(told, rank) - wayOf(told, 0)) * WAY_TO_DAYS / growthOfWorld;
    }

    private int lightToday(Source told, int rank) {
        int lightThen = told.lightOn(today - lateness(told, rank));
        return Math.abs(brightnessOf(told, rank)) * lightThen + told.starsOn(rank, today);
    }

    private Frame framedSky() {
        Frame taken = new Frame(today);
        for (int i = 0; i < sources.size(); i++) {
            int framed = Math.min(sources.get(i).imageCount(), FRAMED_IMAGES);
            for (int rank = 0; rank < framed; rank++) {
                taken.setLight(i, rank, lightToday(sources.get(i), rank));
            }
        }
        return taken;
    }

    private int measuredDays(int source, int rank, int other) {
        Source told = sourceAt(source);
        if (told == null || rank >= FRAMED_IMAGES || other >= FRAMED_IMAGES) {
            return NONE;
        }
        int brightness = Math.abs(brightnessOf(told, rank));
        int otherBrightness = Math.abs(brightnessOf(told, other));
        return album.measure(source, rank, other, brightness, otherBrightness);
    }

    /** A mass in a cell of the field. */
    private static final class Mass {
        private final int shape;
        private final int column;
        private final int row;
        private int strength;

        Mass(int shape, int column, int row, int strength) {
            this.shape = shape;
            this.column = column;
            this.row = row;
            this.strength = strength;
        }

        /** Whether it is too weak to be two. */
        boolean isWhole() {
            return strength <= 1;
        }

        /** Keeps the lower half, and gives the mass that has the rest. */
        Mass split(int otherColumn, int otherRow) {
            int half = Math.max(strength / 2, 1);
            Mass other = new Mass(shape, otherColumn, otherRow, strength - half);
            strength = half;
            return other;
        }

        /** How far aside a ray is, by columns and rows together. */
        int aside(int rayColumn, int rayRow) {
            return Math.abs(rayColumn - column) + Math.abs(rayRow - row);
        }

        int bendInColumns(int rayColumn, int rayRow) {
            return bend(rayColumn - column, aside(rayColumn, rayRow));
        }

        int bendInRows(int rayColumn, int rayRow) {
            int bent = bend(rayRow - row, aside(rayColumn, rayRow));
            return shape == SHEAR ? -bent : bent;
        }

        private int bend(int part, int n) {
            if (n == 0) {
                return 0;
            }
            switch (shape) {
                case HALO: return strength * part / n;
                case STAR: return 4 * strength * part / (n * n);
                default: return strength * part / 8;
            }
        }

        /** By how much it makes the way of a ray shorter. */
        int shortens(int rayColumn, int rayRow) {
            return shape == SHEAR ? 0 : 2 * strength * aside(rayColumn, rayRow);
        }
    }

    /**
     * All masses, and where the rays come from that they bend. A ray is told by its place in tables
     * that are one column and one row wider than the field: the sign of an image at the end of the
     * field asks for the rays right beyond it.
     */
    private static final class Rays {
        private static final int SIDE = 2 * EDGE + 2;

        private final ArrayList<Mass> masses = new ArrayList<>();
        private final int[] columns = new int[SIDE * SIDE];
        private final int[] rows = new int[SIDE * SIDE];
        private final int[] ways = new int[SIDE * SIDE];

        Rays() {
            shootAll();
        }

        static int placeOf(int column, int row) {
            return (row + EDGE) * SIDE + column + EDGE;
        }

        static int columnOf(int place) {
            return place % SIDE - EDGE;
        }

        static int rowOf(int place) {
            return place / SIDE - EDGE;
        }

        int count() {
            return masses.size();
        }

        boolean isFull() {
            return masses.size() >= MOST_MASSES;
        }

        Mass massAt(int number) {
            return number >= 0 && number < masses.size() ? masses.get(number) : null;
        }

        int add(Mass mass) {
            masses.add(mass);
            shootAll();
            return masses.size() - 1;
        }

        int comesFromColumn(int place) {
            return isPlace(place) ? columns[place] : 0;
        }

        int comesFromRow(int place) {
            return isPlace(place) ? rows[place] : 0;
        }

        int wayAt(int place) {
            return isPlace(place) ? ways[place] : 0;
        }

        boolean comesFrom(int place, int column, int row) {
            return isPlace(place) && columns[place] == column && rows[place] == row;
        }

        int brightnessAt(int place) {
            int number = turnAt(place);
            return number == 0 ? FULL_BRIGHTNESS : FULL_BRIGHTNESS / number;
        }

        int countFrom(int column, int row) {
            int found = 0;
            for (int i = -EDGE; i <= EDGE; i++) {
                for (int j = -EDGE; j <= EDGE; j++) {
                    if (comesFrom(placeOf(j, i), column, row)) {
                        found++;
                    }
                }
            }
            return found;
        }

        int countFromBeyond() {
            int found = 0;
            for (int i = -EDGE; i <= EDGE; i++) {
                for (int j = -EDGE; j <= EDGE; j++) {
                    int place = placeOf(j, i);
                    if (!isInField(comesFromColumn(place), comesFromRow(place))) {
                        found++;
                    }
                }
            }
            return found;
        }

        /** Counts the rays from a cell without the tables. */
        int shotFrom(int column, int row) {
            int found = 0;
            for (int i = -EDGE; i <= EDGE; i++) {
                for (int j = -EDGE; j <= EDGE; j++) {
                    if (j - bentInColumns(j, i) == column && i - bentInRows(j, i) == row) {
                        found++;
                    }
                }
            }
            return found;
        }

        private boolean isPlace(int place) {
            return place >= 0 && place < columns.length;
        }

        /** The number that tells the sign of an image. */
        private int turnAt(int place) {
            int nextColumn = place + 1;
            int nextRow = place + SIDE;
            if (!isPlace(place) || !isPlace(nextColumn) || !isPlace(nextRow)) {
                return 0;
            }
            int first = columns[nextColumn] - columns[place];
            int second = rows[nextColumn] - rows[place];
            int otherFirst = columns[nextRow] - columns[place];
            int otherSecond = rows[nextRow] - rows[place];
            return first * otherSecond - second * otherFirst;
        }

        private void shootAll() {
            for (int place = 0; place < columns.length; place++) {
                int column = columnOf(place);
                int row = rowOf(place);
                int across = bentInColumns(column, row);
                int along = bentInRows(column, row);
                columns[place] = column - across;
                rows[place] = row - along;
                ways[place] = 5 * (across * across + along * along) - shortened(column, row);
            }
        }

        private int bentInColumns(int column, int row) {
            int bent = 0;
            for (int i = 0; i < masses.size(); i++) {
                bent += masses.get(i).bendInColumns(column, row);
            }
            return bent;
        }

        private int bentInRows(int column, int row) {
            int bent = 0;
            for (int i = 0; i < masses.size(); i++) {
                bent += masses.get(i).bendInRows(column, row);
            }
            return bent;
        }

        private int shortened(int column, int row) {
            int shorter = 0;
            for (int i = 0; i < masses.size(); i++) {
                shorter += masses.get(i).shortens(column, row);
            }
            return shorter;
        }
    }

    /** A source with the places of its images, by rank. */
    private static final class Source {
        private final int column;
        private final int row;
        private final int firstLight;
        private final int[] places = new int[CELLS];
        private int placeCount = 0;
        private final ArrayList<Flare> flares = new ArrayList<>();
        private final ArrayList<Star> stars = new ArrayList<>();

        Source(int column, int row, int firstLight) {
            this.column = column;
            this.row = row;
            this.firstLight = firstLight;
        }

        int imageCount() {
            return placeCount;
        }

        boolean hasImage(int rank) {
            return rank >= 0 && rank < placeCount;
        }

        int placeAt(int rank) {
            return hasImage(rank) ? places[rank] : 0;
        }

        void findImages(Rays rays) {
            placeCount = 0;
            for (int i = -EDGE; i <= EDGE; i++) {
                for (int j = -EDGE; j <= EDGE; j++) {
                    int place = Rays.placeOf(j, i);
                    if (rays.comesFrom(place, column, row)) {
                        insert(place, rays);
                    }
                }
            }
        }

        /** Images come by rows and columns, so one goes behind all that have the same way. */
        private void insert(int place, Rays rays) {
            if (placeCount >= places.length) {
                return;
            }
            int rank = placeCount;
            while (rank > 0 && rays.wayAt(places[rank - 1]) > rays.wayAt(place)) {
                places[rank] = places[rank - 1];
                rank--;
            }
            places[rank] = place;
            placeCount++;
        }

        void addFlare(Flare flare) {
            flares.add(flare);
        }

        int lightOn(int day) {
            int light = firstLight;
            for (int i = 0; i < flares.size(); i++) {
                if (flares.get(i).day <= day) {
                    light += flares.get(i).more;
                }
            }
            return Math.max(light, 0);
        }

        void addStar(Star star) {
            stars.add(star);
        }

        void clearStars() {
            stars.clear();
        }

        int starsOn(int rank, int day) {
            int more = 0;
            for (int i = 0; i < stars.size(); i++) {
                if (stars.get(i).rank == rank) {
                    more += stars.get(i).moreOn(day);
                }
            }
            return more;
        }
    }

    /** A change of a source's light that stays. */
    private static final class Flare {
        private final int day;
        private final int more;

        Flare(int day, int more) {
            this.day = day;
            this.more = more;
        }
    }

    /** A star that crosses an image. */
    private static final class Star {
        private final int rank;
        private final int start;
        private final int width;
        private final int height;

        Star(int rank, int start, int width, int height) {
            this.rank = rank;
            this.start = start;
            this.width = width;
            this.height = height;
        }

        int moreOn(int day) {
            int left = width - Math.abs(day - (start + width));
            return width < 1 || left <= 0 ? 0 : height * left / width;
        }
    }

    /** The lights of one day. */
    private static final class Frame {
        private final int day;
        private final int[] lights = new int[MOST_SOURCES * FRAMED_IMAGES];

        Frame(int day) {
            this.day = day;
            Arrays.fill(lights, NONE);
        }

        int lightAt(int source, int rank) {
            return isHeld(source, rank) ? lights[source * FRAMED_IMAGES + rank] : NONE;
        }

        void setLight(int source, int rank, int light) {
            if (isHeld(source, rank)) {
                lights[source * FRAMED_IMAGES + rank] = light;
            }
        }

        private boolean isHeld(int source, int rank) {
            return isWithin(source, 0, MOST_SOURCES - 1) && isWithin(rank, 0, FRAMED_IMAGES - 1);
        }
    }

    /** All frames that are not gone, and how far apart their pairs are by days. */
    private static final class Album {
        private final ArrayList<Frame> kept = new ArrayList<>();
        private final long[] sums = new long[LONGEST_DELAY + 1];
        private final int[] pairs = new int[LONGEST_DELAY + 1];

        int count() {
            return kept.size();
        }

        boolean isFull() {
            return kept.size() >= MOST_FRAMES;
        }

        Frame frameAt(int number) {
            return number >= 0 && number < kept.size() ? kept.get(number) : null;
        }

        boolean hasFrameOf(int day) {
            Frame last = frameAt(kept.size() - 1);
            return last != null && last.day == day;
        }

        int add(Frame frame) {
            kept.add(frame);
            return kept.size() - 1;
        }

        void clear() {
            kept.clear();
        }

        /** The days by which the other image is behind the one, or NONE. */
        int measure(int source, int rank, int other, int brightness, int otherBrightness) {
            Arrays.fill(sums, 0);
            Arrays.fill(pairs, 0);
            for (int i = 0; i < kept.size(); i++) {
                int one = kept.get(i).lightAt(source, rank);
                for (int j = i; one != NONE && j < kept.size(); j++) {
                    int later = kept.get(j).lightAt(source, other);
                    if (later != NONE) {
                        addPair(kept.get(j).day - kept.get(i).day, one * otherBrightness - later * brightness);
                    }
                }
            }
            return bestDelay();
        }

        private void addPair(int days, int apart) {
            if (isWithin(days, 0, LONGEST_DELAY)) {
                sums[days] += Math.abs(apart);
                pairs[days]++;
            }
        }

        /** The days by which pairs are least apart; two sums by pair are compared crosswise, exactly. */
        private int bestDelay() {
            int best = NONE;
            for (int days = 0; days <= LONGEST_DELAY; days++) {
                if (pairs[days] >= LEAST_PAIRS
                        && (best == NONE || sums[days] * pairs[best] < sums[best] * pairs[days])) {
                    best = days;
                }
            }
            return best;
        }
    }

    /** The books of both houses, and the minds that open them. */
    private static final class Books {
        private final int[] growths = new int[HOUSES];
        private final int[] masses = new int[HOUSES];
        private int bookings = 0;
        private final boolean[] minds = new boolean[MINDS];
        private boolean isOpen = false;

        Books() {
            Arrays.fill(growths, NONE);
            Arrays.fill(masses, NONE);
        }

        boolean hasHouse(int house) {
            return house >= 0 && house < HOUSES;
        }

        boolean hasMind(int mind) {
            return mind >= 0 && mind < minds.length;
        }

        boolean areOpen() {
            return isOpen;
        }

        int add(int house, int growth, int massesNow) {
            if (hasHouse(house)) {
                growths[house] = growth;
                masses[house] = massesNow;
                bookings++;
            }
            return bookings;
        }

        int growthBy(int house) {
            return hasHouse(house) ? growths[house] : NONE;
        }

        boolean hasBooking(int house) {
            return massesThen(house) != NONE;
        }

        int massesThen(int house) {
            return hasHouse(house) ? masses[house] : NONE;
        }

        void setMind(int mind, boolean isFor) {
            if (hasMind(mind)) {
                minds[mind] = isFor;
            }
            int votes = 0;
            for (int i = 0; i < minds.length; i++) {
                votes += minds[i] ? 1 : 0;
            }
            // Once open, the books stay open, however minds change.
            isOpen = isOpen || votes >= MINDS_TO_OPEN;
        }
    }
}
