import java.lang.reflect.Field;
import java.util.List;

/**
 * isSound tells whether the rows of all queries are the same by trying all rows. No run of calls makes them differ, so
 * one of the two ways is altered here behind the store's back.
 */
public final class SoundTest {
    private static final Check CHECK = new Check();

    public static void main(String[] args) throws ReflectiveOperationException {
        for (int query = 0; query < 6; query++) {
            altered(query, "often");
            altered(query, "again");
        }
        CHECK.finish("SoundTest");
    }

    private static void altered(int query, String way) throws ReflectiveOperationException {
        Triplegarth x = Stores.rich();
        CHECK.due("sound", true, () -> x.isSound());
        Field queries = Triplegarth.class.getDeclaredField("queries");
        queries.setAccessible(true);
        Object asked = ((List<?>) queries.get(x)).get(query);
        Field field = asked.getClass().getSuperclass().getDeclaredField(way);
        field.setAccessible(true);
        int[] times = (int[]) field.get(asked);
        for (int row : new int[] {0, 1, 1000, times.length - 1}) {
            times[row]++;
            CHECK.due("the query " + query + " altered by " + way + " at " + row, false, () -> x.isSound());
            times[row]--;
            CHECK.due("as it was", true, () -> x.isSound());
        }
    }
}
