/** The calls that README.md shows under "Use", with the answers it tells. */
public final class ReadmeTest {
    public static void main(String[] args) {
        TicketCoincidences town = new TicketCoincidences();
        int first = town.addStranger(12, 0, 0, 1);
        int second = town.addStranger(21, 1, 4, 0);
        Check.due("2 the first", first, 0);
        Check.due("2 the second", second, 1);
        Check.asks("19 same sum and mirrored", town, () -> town.pointsOf(first, second), 7);
        Check.asks("27 from 0 to 4", town, () -> town.hoursUntilTogether(first, second), 4);
        Check.due("8 counted", town.pass(4), 7);
        Check.asks("22 together", town, town::coincidences, 7);
        Check.due("4 two corners", town.move(first, 0), 4);
        Check.asks("11 store", town, town::store, 33);
        Check.asks("30 best corner", town, () -> town.bestCorner(first), 4);
        Check.refused("4 stands there", town, Check.NOT_NOW, () -> town.move(first, 0));
        Check.end();
    }
}
