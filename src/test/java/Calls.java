/** Calls that are refused with BAD for every v that is far out: below 0, or as large as can be. */
final class Calls {
    static final String[] ALL_BAD = {"attic v 0 1", "attic 0 v 1", "attic 0 0 v", "told v 0", "told 0 v", "as v 0", "as 0 v", "turns v 0",
        "turns 0 v", "set v 1 1", "set 0 v 1", "set 0 1 v", "set 0 2 v", "set 0 3 v", "set 0 4 v", "star v 0 0", "star 0 v 0", "star 0 0 v",
        "star 0 1 v", "starOf v 0", "starOf 0 v", "chimney v 1", "chimney 0 v", "smokes v", "rule v 0", "rule 0 v", "rule 1 v", "rule 2 v",
        "deal v", "hours v", "town v", "cover v", "behind v 0", "behind 0 v", "debt v 0", "debt 0 v", "rises v 0", "rises 0 v", "turned v 1 0",
        "turned 0 v 0", "turned 0 1 v", "stands v 0", "stands 1 v", "becomes v 1 0", "becomes 0 v 0", "becomes 0 1 v", "like v 0", "like 0 v",
        "fine v", "trim v", "textTold v 0", "textTold 0 v", "why v", "sheet v 0 1", "mark v 0 1", "pour v", "reads v", "copy v 0 0 0 0",
        "copy 0 0 v 0 0", "lay v 0 0", "lay 0 v 0", "lay 0 1 v", "lay 0 2 v", "ask v 0", "ask 1 v", "item v 0", "rest v 1", "count v"};

    private Calls() {
    }
}
