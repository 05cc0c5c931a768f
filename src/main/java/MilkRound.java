import java.util.NoSuchElementException;

/** The office of a dairy: farms, rounds of a tanker, vats, samples, batches, pay and blame. */
public final class MilkRound {
    private static final int MAX_FARMS = 6;
    private static final int MAX_COWS = 5;
    private static final int MAX_VATS = 4;
    private static final int MAX_SAMPLES = 100;
    private static final int MAX_SHARES = 60;
    private static final int MAX_BATCHES = 20;
    private static final int MAX_DAYS_AT_ONCE = 30;
    private static final int LAST_DAY = 999;
    private static final int TANKER_ROOM = 400;

    private static final char IN_TANKER = 't';
    private static final char IN_VAT = 'v';
    private static final char IN_BATCH = 'b';
    /** There is one tanker, so its number tells nothing, but a place has a number. */
    private static final int THE_TANKER = 0;

    private static final char NO_GRADE = '-';
    private static final char SPOILT = 'x';

    private int today;
    private final Farms farms;
    private int vatCount;
    private final int[] vatRooms;
    private int rounds;
    private boolean roundUnderWay;
    private final boolean[] visited;
    private final Samples taken;
    private int batchCount;

    public MilkRound() {
        today = 0;
        farms = new Farms();
        vatCount = 0;
        vatRooms = new int[MAX_VATS];
        rounds = 0;
        roundUnderWay = false;
        visited = new boolean[MAX_FARMS];
        taken = new Samples();
        batchCount = 0;
    }

    // ---- farms

    public int addFarm(int room) throws IllegalArgumentException, IllegalStateException {
        if (room < 10 || room > 200) {
            throw new IllegalArgumentException("a tank holds 10 to 200 litres");
        }
        if (farms.count >= MAX_FARMS) {
            throw new IllegalStateException("there are 6 farms");
        }
        return farms.add(room);
    }

    public int addCow(int farm, int best)
            throws IndexOutOfBoundsException, IllegalArgumentException, IllegalStateException {
        requireFarm(farm);
        if (best < 5 || best > 30) {
            throw new IllegalArgumentException("a cow's best is 5 to 30");
        }
        if (farms.cows[farm] >= MAX_COWS) {
            throw new IllegalStateException("the farm has 5 cows");
        }
        return farms.addCowTo(farm, best);
    }

    public int milkOf(int farm, int day) throws IndexOutOfBoundsException, IllegalArgumentException {
        requireFarm(farm);
        if (day < 0 || day > LAST_DAY) {
            throw new IllegalArgumentException("a day is 0 to 999");
        }
        return farms.milkOn(farm, day);
    }

    public int inTank(int farm) throws IndexOutOfBoundsException {
        requireFarm(farm);
        return farms.tanks[farm];
    }

    public int pass(int days) throws IllegalArgumentException {
        if (days < 1 || days > MAX_DAYS_AT_ONCE || today + days > LAST_DAY) {
            throw new IllegalArgumentException("1 to 30 days pass, up to the day 999");
        }
        int poured = 0;
        for (int passed = 0; passed < days; passed++) {
            today++;
            poured += farms.milkAll(today);
        }
        return poured;
    }

    public int day() {
        return today;
    }

    // ---- rounds and vats

    public int addVat(int room) throws IllegalArgumentException, IllegalStateException {
        if (room < 100 || room > 900) {
            throw new IllegalArgumentException("a vat holds 100 to 900 litres");
        }
        if (vatCount >= MAX_VATS) {
            throw new IllegalStateException("there are 4 vats");
        }
        vatRooms[vatCount] = room;
        return vatCount++;
    }

    public int beginRound() throws IllegalStateException {
        if (roundUnderWay) {
            throw new IllegalStateException("a round is under way");
        }
        roundUnderWay = true;
        for (int farm = 0; farm < MAX_FARMS; farm++) {
            visited[farm] = false;
        }
        rounds++;
        return rounds;
    }

    public int visit(int farm) throws IndexOutOfBoundsException, IllegalStateException {
        requireFarm(farm);
        if (!roundUnderWay) {
            throw new IllegalStateException("no round is under way");
        }
        if (visited[farm]) {
            throw new IllegalStateException("the round visited this farm");
        }
        if (taken.count >= MAX_SAMPLES) {
            throw new IllegalStateException("100 samples were taken");
        }
        int drawn = farms.draw(farm, TANKER_ROOM - inTanker());
        visited[farm] = true;
        if (drawn > 0) {
            taken.add(farm, drawn);
        }
        return drawn;
    }

    public int endRound(int vat)
            throws IndexOutOfBoundsException, IllegalStateException, UnsupportedOperationException {
        requireVat(vat);
        if (!roundUnderWay) {
            throw new IllegalStateException("no round is under way");
        }
        if (inTanker() > freeRoom(vat)) {
            throw new UnsupportedOperationException("the vat has no room for all of it");
        }
        if (taken.countIn(IN_TANKER, THE_TANKER) + taken.countIn(IN_VAT, vat) > MAX_SHARES) {
            throw new UnsupportedOperationException("the vat would have more than 60 shares");
        }
        taken.move(IN_TANKER, THE_TANKER, IN_VAT, vat);
        roundUnderWay = false;
        return inVat(vat);
    }

    public int inTanker() {
        return taken.litresIn(IN_TANKER, THE_TANKER);
    }

    public int inVat(int vat) throws IndexOutOfBoundsException {
        requireVat(vat);
        return taken.litresIn(IN_VAT, vat);
    }

    public int bestVat() throws NoSuchElementException {
        int needed = inTanker();
        int best = -1;
        int leastFree = 0;
        for (int vat = 0; vat < vatCount; vat++) {
            int free = freeRoom(vat);
            if (free >= needed && (best < 0 || free < leastFree)) {
                best = vat;
                leastFree = free;
            }
        }
        if (best < 0) {
            throw new NoSuchElementException("no vat has room for what is in the tanker");
        }
        return best;
    }

    public int close(int vat)
            throws IndexOutOfBoundsException, UnsupportedOperationException, IllegalStateException {
        requireVat(vat);
        if (inVat(vat) == 0) {
            throw new UnsupportedOperationException("the vat is empty");
        }
        if (batchCount >= MAX_BATCHES) {
            throw new IllegalStateException("there are 20 batches");
        }
        int batch = batchCount;
        batchCount++;
        taken.move(IN_VAT, vat, IN_BATCH, batch);
        taken.settle(batch);
        return batch;
    }

    // ---- samples and batches

    public int samples() {
        return taken.count;
    }

    public int farmOf(int sample) throws IndexOutOfBoundsException {
        requireSample(sample);
        return taken.farm[sample];
    }

    public int litres(int sample) throws IndexOutOfBoundsException {
        requireSample(sample);
        return taken.amount[sample];
    }

    public int grade(int sample, char grade)
            throws IndexOutOfBoundsException, IllegalArgumentException, IllegalStateException {
        requireSample(sample);
        if (grade != 'a' && grade != 'b' && grade != 'c' && grade != SPOILT) {
            throw new IllegalArgumentException("a grade is a, b, c or x");
        }
        if (taken.mark[sample] != NO_GRADE) {
            throw new IllegalStateException("the sample has a grade");
        }
        taken.mark[sample] = grade;
        if (taken.place[sample] == IN_BATCH) {
            taken.settle(taken.number[sample]);
        }
        return taken.ungraded();
    }

    public char gradeOf(int sample) throws IndexOutOfBoundsException {
        requireSample(sample);
        return taken.mark[sample];
    }

    public int batches() {
        return batchCount;
    }

    public char stateOf(int batch) throws IndexOutOfBoundsException {
        requireBatch(batch);
        if (taken.isSpoilt(batch)) {
            return 'x';
        }
        return taken.isGraded(batch) ? 'g' : 'w';
    }

    public int share(int batch, int index) throws IndexOutOfBoundsException, NoSuchElementException {
        requireBatch(batch);
        int sample = taken.shareAt(batch, index);
        if (sample < 0) {
            throw new NoSuchElementException("the batch has no such share");
        }
        return sample;
    }

    // ---- money

    public int worth(int batch) throws IndexOutOfBoundsException, UnsupportedOperationException {
        requireGradedBatch(batch);
        return taken.payOfAll(batch);
    }

    public int loss(int batch) throws IndexOutOfBoundsException, UnsupportedOperationException {
        requireGradedBatch(batch);
        return taken.lossOf(batch);
    }

    public long pay(int farm) throws IndexOutOfBoundsException {
        requireFarm(farm);
        long sum = 0;
        for (int batch = 0; batch < batchCount; batch++) {
            sum += taken.paidTo(farm, batch);
        }
        return sum;
    }

    public long blame(int farm) throws IndexOutOfBoundsException {
        requireFarm(farm);
        long sum = 0;
        for (int batch = 0; batch < batchCount; batch++) {
            sum += taken.blamedOn(farm, batch);
        }
        return sum;
    }

    public long balanceBySamples(int farm) throws IndexOutOfBoundsException {
        requireFarm(farm);
        return taken.balanceOf(farm);
    }

    public char wayOf(int sample) throws IndexOutOfBoundsException {
        requireSample(sample);
        return taken.place[sample];
    }

    public float spoiltShare() throws ArithmeticException {
        int all = taken.allLitres();
        // A sample has more than 0 litres: 0 litres means no samples.
        if (all <= 0) {
            throw new ArithmeticException("there are no samples");
        }
        int spoilt = 0;
        for (int batch = 0; batch < batchCount; batch++) {
            if (taken.isSpoilt(batch)) {
                spoilt += taken.litresIn(IN_BATCH, batch);
            }
        }
        return (float) spoilt / (float) all;
    }

    public double meanPay() throws ArithmeticException {
        long cents = 0;
        long amount = 0;
        for (int batch = 0; batch < batchCount; batch++) {
            if (taken.isGraded(batch)) {
                cents += taken.payOfAll(batch);
                amount += taken.litresIn(IN_BATCH, batch);
            }
        }
        // A batch is never empty: 0 litres means no graded batch.
        if (amount <= 0) {
            throw new ArithmeticException("no batch has all its grades");
        }
        return (double) cents / (double) amount;
    }

    private int freeRoom(int vat) {
        return vatRooms[vat] - inVat(vat);
    }

    private void requireFarm(int farm) {
        if (farm < 0 || farm >= farms.count) {
            throw new IndexOutOfBoundsException("no such farm");
        }
    }

    private void requireVat(int vat) {
        if (vat < 0 || vat >= vatCount) {
            throw new IndexOutOfBoundsException("no such vat");
        }
    }

    private void requireSample(int sample) {
        if (sample < 0 || sample >= taken.count) {
            throw new IndexOutOfBoundsException("no such sample");
        }
    }

    private void requireBatch(int batch) {
        if (batch < 0 || batch >= batchCount) {
            throw new IndexOutOfBoundsException("no such batch");
        }
    }

    private void requireGradedBatch(int batch) {
        requireBatch(batch);
        if (!taken.isGraded(batch)) {
            throw new UnsupportedOperationException("a sample of the batch has no grade");
        }
    }

    /** The farms, each with a tank and cows; its callers see to the numbers and the limits. */
    private static final class Farms {
        private int count;
        private final int[] rooms;
        private final int[] tanks;
        private final int[] cows;
        private final int[][] bests;

        private Farms() {
            count = 0;
            rooms = new int[MAX_FARMS];
            tanks = new int[MAX_FARMS];
            cows = new int[MAX_FARMS];
            bests = new int[MAX_FARMS][MAX_COWS];
        }

        private int add(int room) {
            rooms[count] = room;
            return count++;
        }

        private int addCowTo(int farm, int best) {
            bests[farm][cows[farm]] = best;
            cows[farm]++;
            return cows[farm];
        }

        private int milkOn(int farm, int day) {
            int milk = 0;
            for (int cow = 0; cow < cows[farm]; cow++) {
                milk += milkOfCow(bests[farm][cow], day);
            }
            return milk;
        }

        private static int milkOfCow(int best, int day) {
            return Math.max(5, best - Math.abs(5 - day % 10));
        }

        /** Fills the tanks with the milk of a day and answers what is poured away. */
        private int milkAll(int day) {
            int poured = 0;
            for (int farm = 0; farm < count; farm++) {
                int milk = milkOn(farm, day);
                int kept = Math.min(milk, rooms[farm] - tanks[farm]);
                tanks[farm] += kept;
                poured += milk - kept;
            }
            return poured;
        }

        /** Takes out of a tank what is in it, but not more than there is room for. */
        private int draw(int farm, int room) {
            int drawn = Math.min(tanks[farm], room);
            tanks[farm] -= drawn;
            return drawn;
        }
    }

    /**
     * The samples, which stand for the milk of their visits: where a sample is, its milk is. A place
     * and a number tell it: the tanker, a vat, a batch. Milk moves only as a whole and rounds come
     * one after the other, so the samples of a vat or a batch came to it in the order of their numbers.
     */
    private static final class Samples {
        private int count;
        private final int[] farm;
        private final int[] amount;
        private final char[] mark;
        private final char[] place;
        private final int[] number;
        /** Both stay 0 until the batch of the sample has all its grades. */
        private final int[] paid;
        private final int[] blamed;

        private Samples() {
            count = 0;
            farm = new int[MAX_SAMPLES];
            amount = new int[MAX_SAMPLES];
            mark = new char[MAX_SAMPLES];
            place = new char[MAX_SAMPLES];
            number = new int[MAX_SAMPLES];
            paid = new int[MAX_SAMPLES];
            blamed = new int[MAX_SAMPLES];
        }

        private void add(int fromFarm, int drawn) {
            farm[count] = fromFarm;
            amount[count] = drawn;
            mark[count] = NO_GRADE;
            place[count] = IN_TANKER;
            number[count] = THE_TANKER;
            count++;
        }

        private boolean isIn(int sample, char where, int which) {
            return place[sample] == where && number[sample] == which;
        }

        private void move(char from, int fromWhich, char to, int toWhich) {
            for (int sample = 0; sample < count; sample++) {
                if (isIn(sample, from, fromWhich)) {
                    place[sample] = to;
                    number[sample] = toWhich;
                }
            }
        }

        private int countIn(char where, int which) {
            int found = 0;
            for (int sample = 0; sample < count; sample++) {
                if (isIn(sample, where, which)) {
                    found++;
                }
            }
            return found;
        }

        private int litresIn(char where, int which) {
            int sum = 0;
            for (int sample = 0; sample < count; sample++) {
                if (isIn(sample, where, which)) {
                    sum += amount[sample];
                }
            }
            return sum;
        }

        private int allLitres() {
            int sum = 0;
            for (int sample = 0; sample < count; sample++) {
                sum += amount[sample];
            }
            return sum;
        }

        private int ungraded() {
            int found = 0;
            for (int sample = 0; sample < count; sample++) {
                if (mark[sample] == NO_GRADE) {
                    found++;
                }
            }
            return found;
        }

        /** Answers the sample of a share of a batch, -1 if there is none. */
        private int shareAt(int batch, int index) {
            int before = 0;
            for (int sample = 0; sample < count; sample++) {
                if (isIn(sample, IN_BATCH, batch)) {
                    if (before == index) {
                        return sample;
                    }
                    before++;
                }
            }
            return -1;
        }

        private boolean isGraded(int batch) {
            for (int sample = 0; sample < count; sample++) {
                if (mark[sample] == NO_GRADE && isIn(sample, IN_BATCH, batch)) {
                    return false;
                }
            }
            return true;
        }

        private boolean isSpoilt(int batch) {
            return spoiltLitres(batch) > 0;
        }

        private boolean isSpoiltIn(int sample, int batch) {
            return mark[sample] == SPOILT && isIn(sample, IN_BATCH, batch);
        }

        private int spoiltLitres(int batch) {
            int sum = 0;
            for (int sample = 0; sample < count; sample++) {
                if (isSpoiltIn(sample, batch)) {
                    sum += amount[sample];
                }
            }
            return sum;
        }

        private static int centsALitre(char grade) {
            if (grade == 'a') {
                return 40;
            }
            if (grade == 'b') {
                return 34;
            }
            return grade == 'c' ? 25 : 0;
        }

        private int valueOfSample(int sample) {
            return amount[sample] * centsALitre(mark[sample]);
        }

        /** What the samples of a batch would be paid if none of them spoilt the others. */
        private int valueOf(int batch) {
            int sum = 0;
            for (int sample = 0; sample < count; sample++) {
                if (isIn(sample, IN_BATCH, batch)) {
                    sum += valueOfSample(sample);
                }
            }
            return sum;
        }

        private int payOfAll(int batch) {
            return isSpoilt(batch) ? 0 : valueOf(batch);
        }

        private int lossOf(int batch) {
            return isSpoilt(batch) ? valueOf(batch) : 0;
        }

        /** Pay and blame are fixed once the last grade is there, since a grade never changes. */
        private void settle(int batch) {
            if (!isGraded(batch)) {
                return;
            }
            int spoilt = spoiltLitres(batch);
            if (spoilt > 0) {
                settleBlame(batch, spoilt);
            } else {
                settlePay(batch);
            }
        }

        private void settlePay(int batch) {
            for (int sample = 0; sample < count; sample++) {
                if (isIn(sample, IN_BATCH, batch)) {
                    paid[sample] = valueOfSample(sample);
                }
            }
        }

        private void settleBlame(int batch, int spoilt) {
            int lost = valueOf(batch);
            int left = lost;
            for (int sample = 0; sample < count; sample++) {
                if (isSpoiltIn(sample, batch)) {
                    blamed[sample] = lost * amount[sample] / spoilt;
                    left -= blamed[sample];
                }
            }
            for (int sample = 0; sample < count && left > 0; sample++) {
                if (isSpoiltIn(sample, batch)) {
                    blamed[sample]++;
                    left--;
                }
            }
        }

        private int paidTo(int toFarm, int batch) {
            int sum = 0;
            for (int sample = 0; sample < count; sample++) {
                if (farm[sample] == toFarm && isIn(sample, IN_BATCH, batch)) {
                    sum += paid[sample];
                }
            }
            return sum;
        }

        private int blamedOn(int onFarm, int batch) {
            int sum = 0;
            for (int sample = 0; sample < count; sample++) {
                if (farm[sample] == onFarm && isIn(sample, IN_BATCH, batch)) {
                    sum += blamed[sample];
                }
            }
            return sum;
        }

        private long balanceOf(int ofFarm) {
            long sum = 0;
            for (int sample = 0; sample < count; sample++) {
                if (farm[sample] == ofFarm) {
                    sum += paid[sample] - blamed[sample];
                }
            }
            return sum;
        }
    }
}
