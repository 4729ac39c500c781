import java.time.LocalDate;
import java.time.temporal.ChronoUnit;

/** Promise 26, and the calendar of all due days. */
public final class DaysTest {
    private static final Check check = new Check();
    private static final LocalDate FIRST = LocalDate.of(1900, 1, 1);
    private static RecordsOffice office = new RecordsOffice();
    private static int calls;

    public static void main(String[] args) {
        everyDayAgainstTheLibrary();
        everyTermFromEndsOfMonths();
        fiscalYearsAgainstTheLibrary();
        check.end();
    }

    private static int dayOf(LocalDate date) {
        return (int) ChronoUnit.DAYS.between(FIRST, date);
    }

    private static void everyDayAgainstTheLibrary() {
        int[][] terms = {{0, 0}, {0, 1}, {0, 11}, {1, 0}, {4, 1}, {100, 11}};
        for (int day = 0; day <= 120000; day++) {
            for (int[] term : terms) {
                compare(day, term[0], term[1]);
            }
        }
    }

    private static void everyTermFromEndsOfMonths() {
        int[] days = {0, 30, 31, 58, 59, 1519, 36524, 36583, 36584, 73048, 73107, 119999, 120000};
        for (int day : days) {
            for (int months = 0; months <= 1211; months++) {
                compare(day, months / 12, months % 12);
            }
        }
    }

    private static void compare(int day, int years, int months) {
        calls++;
        // Nothing is promised of an object after 512 calls.
        if (calls % 500 == 0) {
            office = new RecordsOffice();
        }
        check.is(dayOf(FIRST.plusDays(day).plusMonths(years * 12 + months)), office.later(day, years, months));
    }

    private static void fiscalYearsAgainstTheLibrary() {
        for (int month = 1; month <= 12; month++) {
            for (int from = 0; from <= 120000 - 64 * 7; from += 13007) {
                fiscalYear(month, from);
            }
            fiscalYear(month, 120000 - 63 * 7);
        }
    }

    private static void fiscalYear(int month, int from) {
        RecordsOffice x = new RecordsOffice();
        x.version(0, 3, 0, 0, false, 0);
        x.fiscal(month);
        x.open(0, 0);
        for (int i = 0; i < 64; i++) {
            int day = from + 7 * i;
            check.is(i, x.file(0, 1, 0, -1, -1, -1, day));
            LocalDate end = FIRST.plusDays(day).withDayOfMonth(1).plusMonths(1);
            while (end.getMonthValue() != month) {
                end = end.plusMonths(1);
            }
            check.is(dayOf(end) - 1, x.due(i));
        }
    }
}
