import java.util.function.IntFunction;

/** What a dairy lets one see, as a text; none of these calls may change it. */
final class Looks {
    private final MilkRound dairy;
    private final StringBuilder seen = new StringBuilder();

    private Looks(MilkRound dairy) {
        this.dairy = dairy;
    }

    /** Fewer than 20 calls, since an object is used for at most 512. */
    static String brief(MilkRound dairy) {
        Looks looks = new Looks(dairy);
        looks.whole();
        looks.each("tank", 0, 6, dairy::inTank);
        looks.each("vat", 0, 4, dairy::inVat);
        return looks.seen.toString();
    }

    /** All that can be seen, and one number beyond what there is on each side. */
    static String all(MilkRound dairy) {
        Looks looks = new Looks(dairy);
        looks.whole();
        looks.farms();
        looks.each("vat", -1, 5, dairy::inVat);
        looks.samples();
        looks.batches();
        return looks.seen.toString();
    }

    private void whole() {
        seen.append("day ").append(dairy.day()).append(" tanker ").append(dairy.inTanker());
        seen.append(" samples ").append(dairy.samples()).append(" batches ").append(dairy.batches());
        seen.append(" best ").append(Check.outcome(dairy::bestVat));
        seen.append(" spoilt ").append(Check.outcome(dairy::spoiltShare));
        seen.append(" mean ").append(Check.outcome(dairy::meanPay));
    }

    private void farms() {
        each("tank", -1, 7, dairy::inTank);
        each("milk on day 0", -1, 7, farm -> dairy.milkOf(farm, 0));
        each("milk on day 5", -1, 7, farm -> dairy.milkOf(farm, 5));
        each("pay", -1, 7, dairy::pay);
        each("blame", -1, 7, dairy::blame);
        each("balance", -1, 7, dairy::balanceBySamples);
    }

    private void samples() {
        int end = dairy.samples() + 1;
        each("farm", -1, end, dairy::farmOf);
        each("litres", -1, end, dairy::litres);
        each("grade", -1, end, dairy::gradeOf);
        each("way", -1, end, dairy::wayOf);
    }

    private void batches() {
        int end = dairy.batches() + 1;
        each("state", -1, end, dairy::stateOf);
        each("worth", -1, end, dairy::worth);
        each("loss", -1, end, dairy::loss);
        for (int batch = 0; batch < end - 1; batch++) {
            int number = batch;
            each("share", -1, 9, index -> dairy.share(number, index));
        }
    }

    private void each(String name, int from, int end, IntFunction<Object> look) {
        seen.append('\n').append(name);
        for (int number = from; number < end; number++) {
            int at = number;
            seen.append(' ').append(Check.outcome(() -> look.apply(at)));
        }
    }
}
