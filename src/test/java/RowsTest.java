import java.lang.reflect.Field;
import java.util.ArrayList;
import java.util.List;

/** "All memory is rows made once.": the arrays of a new object are the same ones at the end of a run. */
public final class RowsTest {
    public static void main(String[] args) throws IllegalAccessException {
        Checks checks = new Checks("rows");
        SegmentLogs logs = new SegmentLogs(12);
        List<Object> made = rowsOf(logs);
        for (int round = 0; round < 15; round++) {
            int first = logs.next(0);
            Checks.takeMany(logs, 0, 16);
            Checks.dropRange(logs, first, 16);
            logs.checkpoint();
        }
        List<Object> kept = rowsOf(logs);
        for (int i = 0; i < made.size(); i++) {
            checks.is("row " + i + " is the one that was made", made.get(i) == kept.get(i), true);
        }
        checks.end();
    }

    private static List<Object> rowsOf(SegmentLogs logs) throws IllegalAccessException {
        List<Object> rows = new ArrayList<>();
        for (Field field : SegmentLogs.class.getDeclaredFields()) {
            if (field.getType().isArray()) {
                field.setAccessible(true);
                rows.add(field.get(logs));
            }
        }
        return rows;
    }
}
