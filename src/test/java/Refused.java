import java.util.List;
import java.util.function.Consumer;
import java.util.function.Supplier;

/** A refused call throws what is due, and leaves the object like its twin that was never called so. */
final class Refused {
    private Refused() {
    }

    /** The numbers next to an allowed stretch, and the farthest. */
    static int[] outside(int least, int most) {
        return new int[] {Integer.MIN_VALUE, least - 1, most + 1, Integer.MAX_VALUE};
    }

    static void noSuchPlace(String what, Supplier<OutlookOdds> stock, Consumer<OutlookOdds> call) {
        by("IndexOutOfBoundsException", what, stock, call);
    }

    static void wrongNumber(String what, Supplier<OutlookOdds> stock, Consumer<OutlookOdds> call) {
        by("IllegalArgumentException", what, stock, call);
    }

    static void wrongState(String what, Supplier<OutlookOdds> stock, Consumer<OutlookOdds> call) {
        by("IllegalStateException", what, stock, call);
    }

    private static void by(String due, String what, Supplier<OutlookOdds> stock, Consumer<OutlookOdds> call) {
        OutlookOdds x = stock.get();
        Check.same(what, Check.thrownBy(() -> call.accept(x)), due);
        sameStock("after a refused " + what, x, stock.get());
    }

    static void sameStock(String what, OutlookOdds x, OutlookOdds twin) {
        Check.same(what, firstDifference(Stocks.portrait(x), Stocks.portrait(twin)), "no difference");
    }

    static String firstDifference(List<String> got, List<String> due) {
        for (int i = 0; i < Math.min(got.size(), due.size()); i++) {
            if (!got.get(i).equals(due.get(i))) {
                return got.get(i) + " and not " + due.get(i);
            }
        }
        return got.size() == due.size() ? "no difference" : "another number of answers";
    }
}
