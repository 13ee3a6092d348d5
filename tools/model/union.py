# Schemas in which the { } that is changed stands beside its like: the same names, other shapes. Arguments as for fuzz.py.
import sys,os
sys.path.insert(0,os.path.dirname(os.path.abspath(__file__)))
import fuzz
from fuzz import *
N3=['a','b','c','r']
def num(): return R.choice(['num(0..9)','num(0..99)','num(3..47)','num','num(-2..5)','num(1..1)'])
def small_rec(depth=0):
    ns=R.sample(N3,R.choice([0,1,2,2,3]))
    return '{'+','.join(f+R.choice(['','','?'])+':'+leafy(depth+1) for f in ns)+'}'
def leafy(depth):
    c=R.random()
    if c<.4: return num()
    if c<.5: return 'text'
    if c<.62: return R.choice(['T','U'])+'('+num()+')'
    if c<.8 and depth<3: return small_rec(depth)
    if c<.9: return '@P'
    return '['+num()+']'
def unions():
    for _ in range(200):
        p='{'+','.join(f+R.choice(['','','?'])+':'+leafy(1) for f in R.sample(N3,R.choice([1,2,3,3,4])))+'}'
        alts=['@P']
        for _ in range(R.choice([0,1,1,2,3])):
            alts.append(R.choice(['T(@P)','[@P]','<@P>',small_rec(),small_rec(),'num(0..3)','text(a)','T(@Q)','@Q']))
        R.shuffle(alts)
        if R.random()<.3: t='R='+p.replace('@P','@R')+';'
        else: t='R='+'|'.join(alts)+';P='+p+';'
        if '@Q' in t: t+='Q='+R.choice([small_rec(),'T(@P)|'+small_rec(),'[@P]'])+';'
        if '@P' in t and 'P=' not in t: continue
        f,d=parse_schema(t)
        if f is None: return t
    return 'R={a:num};'
def use():
    fuzz.rschema=unions
    fuzz.NAMES[:]=['a','b','c','r','d']
    fuzz.TAGS[:]=['T','U']
if __name__=='__main__':
    use(); fuzz.main()
