import java.util.ArrayList;
import java.util.Comparator;
import java.util.List;
import java.util.NoSuchElementException;

/**
 * The document once more, with the lists and objects of the Java library and with nothing kept that
 * can be found out: what random runs of MilkRound are compared with. Its methods are those of the face.
 */
public final class PlainDairy {
    private static final class Farm {
        final int room;
        final List<Integer> cows = new ArrayList<>();
        int tank = 0;
        boolean visited = false;

        Farm(int room) {
            this.room = room;
        }

        int milk(int day) {
            return cows.stream().mapToInt(best -> Math.max(best - Math.abs(5 - day % 10), 5)).sum();
        }
    }

    private static final class Sample {
        final int number;
        final int farm;
        final int litres;
        char grade = '-';

        Sample(int number, int farm, int litres) {
            this.number = number;
            this.farm = farm;
            this.litres = litres;
        }

        boolean spoilt() {
            return grade == 'x';
        }

        int value() {
            return litres * switch (grade) {
                case 'a' -> 40;
                case 'b' -> 34;
                case 'c' -> 25;
                default -> 0;
            };
        }
    }

    private static final class Vat {
        final int room;
        List<Sample> shares = new ArrayList<>();

        Vat(int room) {
            this.room = room;
        }
    }

    private int day = 0;
    private int rounds = 0;
    private List<Sample> tanker = null;
    private final List<Farm> farms = new ArrayList<>();
    private final List<Vat> vats = new ArrayList<>();
    private final List<Sample> samples = new ArrayList<>();
    private final List<List<Sample>> batches = new ArrayList<>();

    public int addFarm(int room) {
        argument(room >= 10 && room <= 200);
        state(farms.size() < 6);
        farms.add(new Farm(room));
        return farms.size() - 1;
    }

    public int addCow(int farm, int best) {
        Farm to = at(farms, farm);
        argument(best >= 5 && best <= 30);
        state(to.cows.size() < 5);
        to.cows.add(best);
        return to.cows.size();
    }

    public int milkOf(int farm, int day) {
        Farm of = at(farms, farm);
        argument(day >= 0 && day <= 999);
        return of.milk(day);
    }

    public int inTank(int farm) {
        return at(farms, farm).tank;
    }

    public int pass(int days) {
        argument(days >= 1 && days <= 30 && day + days <= 999);
        int poured = 0;
        for (int i = 0; i < days; i++) {
            day++;
            for (Farm farm : farms) {
                farm.tank += farm.milk(day);
                poured += Math.max(0, farm.tank - farm.room);
                farm.tank = Math.min(farm.tank, farm.room);
            }
        }
        return poured;
    }

    public int day() {
        return day;
    }

    public int addVat(int room) {
        argument(room >= 100 && room <= 900);
        state(vats.size() < 4);
        vats.add(new Vat(room));
        return vats.size() - 1;
    }

    public int beginRound() {
        state(tanker == null);
        tanker = new ArrayList<>();
        farms.forEach(farm -> farm.visited = false);
        return ++rounds;
    }

    public int visit(int farm) {
        Farm to = at(farms, farm);
        state(tanker != null && !to.visited && samples.size() < 100);
        int taken = Math.min(to.tank, 400 - inTanker());
        to.visited = true;
        to.tank -= taken;
        if (taken > 0) {
            Sample sample = new Sample(samples.size(), farm, taken);
            samples.add(sample);
            tanker.add(sample);
        }
        return taken;
    }

    public int endRound(int vat) {
        Vat into = at(vats, vat);
        state(tanker != null);
        supported(sum(into.shares) + inTanker() <= into.room);
        supported(into.shares.size() + tanker.size() <= 60);
        into.shares.addAll(tanker);
        tanker = null;
        return sum(into.shares);
    }

    public int inTanker() {
        return tanker == null ? 0 : sum(tanker);
    }

    public int inVat(int vat) {
        return sum(at(vats, vat).shares);
    }

    public int bestVat() {
        return vats.stream().filter(vat -> free(vat) >= inTanker()).min(Comparator.comparingInt(PlainDairy::free))
                .map(vats::indexOf).orElseThrow(NoSuchElementException::new);
    }

    public int close(int vat) {
        Vat of = at(vats, vat);
        supported(!of.shares.isEmpty());
        state(batches.size() < 20);
        batches.add(of.shares);
        of.shares = new ArrayList<>();
        return batches.size() - 1;
    }

    public int samples() {
        return samples.size();
    }

    public int farmOf(int sample) {
        return at(samples, sample).farm;
    }

    public int litres(int sample) {
        return at(samples, sample).litres;
    }

    public int grade(int sample, char grade) {
        Sample of = at(samples, sample);
        argument("abcx".indexOf(grade) >= 0);
        state(of.grade == '-');
        of.grade = grade;
        return (int) samples.stream().filter(each -> each.grade == '-').count();
    }

    public char gradeOf(int sample) {
        return at(samples, sample).grade;
    }

    public int batches() {
        return batches.size();
    }

    public char stateOf(int batch) {
        List<Sample> of = at(batches, batch);
        return spoilt(of) ? 'x' : graded(of) ? 'g' : 'w';
    }

    public int share(int batch, int index) {
        List<Sample> of = at(batches, batch);
        if (index < 0 || index >= of.size()) {
            throw new NoSuchElementException();
        }
        return of.get(index).number;
    }

    public int worth(int batch) {
        List<Sample> of = at(batches, batch);
        supported(graded(of));
        return spoilt(of) ? 0 : value(of);
    }

    public int loss(int batch) {
        List<Sample> of = at(batches, batch);
        supported(graded(of));
        return spoilt(of) ? value(of) : 0;
    }

    public long pay(int farm) {
        at(farms, farm);
        return batches.stream().filter(each -> graded(each) && !spoilt(each)).flatMap(List::stream)
                .filter(each -> each.farm == farm).mapToLong(Sample::value).sum();
    }

    public long blame(int farm) {
        at(farms, farm);
        long sum = 0;
        for (List<Sample> batch : batches) {
            if (graded(batch) && spoilt(batch)) {
                sum += blameIn(batch, farm);
            }
        }
        return sum;
    }

    public long balanceBySamples(int farm) {
        return pay(farm) - blame(farm);
    }

    public char wayOf(int sample) {
        Sample of = at(samples, sample);
        if (tanker != null && tanker.contains(of)) {
            return 't';
        }
        return vats.stream().anyMatch(vat -> vat.shares.contains(of)) ? 'v' : 'b';
    }

    public float spoiltShare() {
        if (samples.isEmpty()) {
            throw new ArithmeticException();
        }
        int spoilt = batches.stream().filter(PlainDairy::spoilt).mapToInt(PlainDairy::sum).sum();
        return (float) spoilt / (float) sum(samples);
    }

    public double meanPay() {
        List<List<Sample>> graded = batches.stream().filter(PlainDairy::graded).toList();
        if (graded.isEmpty()) {
            throw new ArithmeticException();
        }
        long cents = graded.stream().filter(each -> !spoilt(each)).mapToLong(PlainDairy::value).sum();
        long litres = graded.stream().mapToLong(PlainDairy::sum).sum();
        return (double) cents / (double) litres;
    }

    private static long blameIn(List<Sample> batch, int farm) {
        List<Sample> guilty = batch.stream().filter(Sample::spoilt).toList();
        long loss = value(batch);
        long left = loss - guilty.stream().mapToLong(each -> loss * each.litres / sum(guilty)).sum();
        long sum = 0;
        for (int i = 0; i < guilty.size(); i++) {
            if (guilty.get(i).farm == farm) {
                sum += loss * guilty.get(i).litres / sum(guilty) + (i < left ? 1 : 0);
            }
        }
        return sum;
    }

    private static int free(Vat vat) {
        return vat.room - sum(vat.shares);
    }

    private static int sum(List<Sample> samples) {
        return samples.stream().mapToInt(each -> each.litres).sum();
    }

    private static int value(List<Sample> samples) {
        return samples.stream().mapToInt(Sample::value).sum();
    }

    private static boolean graded(List<Sample> samples) {
        return samples.stream().noneMatch(each -> each.grade == '-');
    }

    private static boolean spoilt(List<Sample> samples) {
        return samples.stream().anyMatch(Sample::spoilt);
    }

    private static <T> T at(List<T> list, int index) {
        if (index < 0 || index >= list.size()) {
            throw new IndexOutOfBoundsException();
        }
        return list.get(index);
    }

    private static void argument(boolean fits) {
        if (!fits) {
            throw new IllegalArgumentException();
        }
    }

    private static void state(boolean fits) {
        if (!fits) {
            throw new IllegalStateException();
        }
    }

    private static void supported(boolean fits) {
        if (!fits) {
            throw new UnsupportedOperationException();
        }
    }
}
